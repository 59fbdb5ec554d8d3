import java.util.Random;
import java.util.function.IntSupplier;

/** Runs of calls that a seed chooses, on the program and on the model: all answers are the same. */
public final class RandomRunsTest {
    private static final int RUNS = 400;
    private static final int CALLS = 512;

    /** Random's first numbers are much the same for seeds that are near to one another. */
    private static final long SCATTER = 0x9E3779B97F4A7C15L;

    private final int manner;
    private final Random random;
    private final SharingRoom room = new SharingRoom();
    private final Model model = new Model();
    private final StringBuilder trace = new StringBuilder();
    private int calls;

    private RandomRunsTest(long seed) {
        manner = (int) (seed % 8);
        random = new Random(seed * SCATTER);
    }

    public static void main(String[] args) {
        Check all = new Check();
        for (long seed = 1; seed <= RUNS; seed++) {
            RandomRunsTest run = new RandomRunsTest(seed);
            all.same("run " + seed, run.differs(), "as due");
        }
        all.finish("RandomRunsTest");
    }

    private String differs() {
        try {
            run();
        } catch (AssertionError e) {
            return e.getMessage();
        }
        return "as due";
    }

    private void run() {
        // Each run leans to rooms, to points, or to calls of all kinds with wrong arguments.
        while (calls < CALLS) {
            if (manner == 0) {
                somePoint();
            } else if (manner == 1) {
                anyCall();
            } else {
                wholeRoom();
            }
        }
    }

    private int any(int from, int to) {
        return from + random.nextInt(to - from + 1);
    }

    /** Mostly from 1 to n, at times one beside, seldom anything. */
    private int near(int from, int to) {
        int dice = random.nextInt(20);
        if (dice == 0) {
            return random.nextInt();
        }
        return dice < 3 ? any(from - 1, to + 1) : any(from, to);
    }

    private void somePoint() {
        int sizes = random.nextInt(3) == 0 ? 30 : 255;
        switch (random.nextInt(12)) {
            case 0 -> doField(random.nextInt(3) == 0 ? near(0, 2) : any(0, 2));
            case 1, 2, 3, 4, 5, 6 -> doPoint(near(1, sizes), near(0, sizes));
            case 7, 8, 9 -> doCombine(near(0, sizes));
            default -> doDegree();
        }
    }

    private void wholeRoom() {
        int group = any(0, 1);
        int n = any(1, 7);
        int t = any(1, n);
        doBegin(group, n, t);
        for (int i = 1; i <= n; i++) {
            for (int k = 0; k < t && random.nextInt(8) != 0; k++) {
                doGive(i, k, 0, random.nextInt());
                doGive(i, k, 1, any(-50, 2000));
            }
        }
        int trouble = random.nextInt(6);
        for (int f = 0; f < trouble; f++) {
            doFault(near(1, n), random.nextInt(3) == 0 ? 5 : near(0, 6), any(1, n));
            if (random.nextInt(3) == 0) {
                doCrash(near(1, n), near(1, 8));
            }
        }
        for (int round = 1; round <= 7 && calls < CALLS; round++) {
            doNext();
            for (int looks = random.nextInt(4); looks > 0; looks--) {
                look(n, t);
            }
            compareAll();
        }
        for (int more = random.nextInt(12); more > 0; more--) {
            afterwards();
            compareAll();
        }
    }

    private void look(int n, int t) {
        switch (random.nextInt(11)) {
            case 0 -> doParties(near(0, 3));
            case 1 -> doComplaints(near(1, n));
            case 2 -> doReceived(near(1, n), near(1, n), near(0, 1));
            case 3 -> doCommitment(near(1, n), near(0, t - 1), near(0, 1));
            case 4 -> doShare(near(1, n), near(0, 1));
            case 5 -> doTold(near(0, 80));
            case 6 -> doDigest(near(0, 7));
            case 7 -> doKey();
            case 8 -> doRecover(random.nextInt(1 << n));
            case 9 -> doFault(near(1, n), near(0, 6), near(1, n));
            default -> doGive(near(1, n), near(0, t - 1), near(0, 1), random.nextInt());
        }
    }

    private void afterwards() {
        int m = any(1, 7);
        switch (random.nextInt(9)) {
            case 0 -> doRefresh();
            case 1, 2 -> doHandOn(random.nextInt(random.nextInt(3) == 0 ? 256 : 128), near(1, m), m);
            case 3 -> doHandOn(random.nextInt(16), near(1, 3), near(3, 7));
            case 4 -> doRecover(random.nextInt(64));
            case 5 -> doNext();
            case 6 -> doCrash(any(1, 7), any(1, 8));
            default -> doGive(near(1, m), near(0, 3), near(0, 1), random.nextInt());
        }
    }

    private void anyCall() {
        switch (random.nextInt(6)) {
            case 0 -> somePoint();
            case 1 -> doNext();
            case 2 -> afterwards();
            case 3 -> doBegin(near(0, 1), near(1, 7), near(1, 4));
            default -> look(any(1, 7), any(1, 7));
        }
        compareAll();
    }

    /** Everything that the room tells; it is not counted, since it changes nothing. */
    private void compareAll() {
        int counted = calls;
        doState();
        doKey();
        compareBoards();
        for (int what = -1; what <= 4; what++) {
            doParties(what);
        }
        for (int i = 1; i <= 7; i++) {
            doComplaints(i);
            for (int which = 0; which < 2; which++) {
                doShare(i, which);
                for (int j = 1; j <= 7; j++) {
                    doReceived(i, j, which);
                    doCommitment(i, j - 1, which);
                }
            }
        }
        doRecover(random.nextInt(128));
        calls = counted;
    }

    private void compareBoards() {
        doBoard();
        // The digest tells whether all bytes are the same, the single ones where they are not.
        for (int k = 0; k < 8; k++) {
            doTold(random.nextInt(model.board() + 1));
        }
        for (int word = 0; word < 8; word++) {
            doDigest(word);
        }
    }

    private static String answerOf(IntSupplier call) {
        try {
            return String.valueOf(call.getAsInt());
        } catch (RuntimeException e) {
            return "throws." + e.getClass().getSimpleName();
        }
    }

    private void compare(String what, IntSupplier got, IntSupplier due) {
        calls++;
        String answer = answerOf(got);
        String asked = answerOf(due);
        if (!answer.equals(asked)) {
            throw new AssertionError(trace + what + " = " + answer + ", due is " + asked);
        }
    }

    /** As compare, for a call that changes something and therefore is kept in the trace. */
    private void change(String what, IntSupplier got, IntSupplier due) {
        compare(what, got, due);
        trace.append(what).append("; ");
    }

    private static String name(String method, int... arguments) {
        StringBuilder text = new StringBuilder(method).append("(");
        for (int k = 0; k < arguments.length; k++) {
            text.append(k == 0 ? "" : ", ").append(arguments[k]);
        }
        return text.append(")").toString();
    }

    private static int none(Runnable call) {
        call.run();
        return 0;
    }

    private void doField(int f) {
        change(name("field", f), () -> none(() -> room.field(f)), () -> none(() -> model.field(f)));
    }

    private void doPoint(int x, int y) {
        change(name("point", x, y), () -> room.point(x, y), () -> model.point(x, y));
    }

    private void doCombine(int x) {
        compare(name("combine", x), () -> room.combine(x), () -> model.combine(x));
    }

    private void doDegree() {
        compare("degree()", room::degree, model::degree);
    }

    private void doBegin(int group, int n, int t) {
        change(name("begin", group, n, t), () -> none(() -> room.begin(group, n, t)),
                () -> none(() -> model.begin(group, n, t)));
    }

    private void doGive(int i, int k, int which, int value) {
        change(name("give", i, k, which, value), () -> none(() -> room.give(i, k, which, value)),
                () -> none(() -> model.give(i, k, which, value)));
    }

    private void doFault(int i, int kind, int j) {
        change(name("fault", i, kind, j), () -> none(() -> room.fault(i, kind, j)),
                () -> none(() -> model.fault(i, kind, j)));
    }

    private void doCrash(int i, int round) {
        change(name("crash", i, round), () -> none(() -> room.crash(i, round)),
                () -> none(() -> model.crash(i, round)));
    }

    private void doNext() {
        change("next()", room::next, model::next);
    }

    private void doState() {
        compare("state()", room::state, model::state);
    }

    private void doParties(int what) {
        compare(name("parties", what), () -> room.parties(what), () -> model.parties(what));
    }

    private void doComplaints(int i) {
        compare(name("complaints", i), () -> room.complaints(i), () -> model.complaints(i));
    }

    private void doReceived(int i, int j, int which) {
        compare(name("received", i, j, which), () -> room.received(i, j, which),
                () -> model.received(i, j, which));
    }

    private void doCommitment(int i, int k, int which) {
        compare(name("commitment", i, k, which), () -> room.commitment(i, k, which),
                () -> model.commitment(i, k, which));
    }

    private void doShare(int j, int which) {
        compare(name("share", j, which), () -> room.share(j, which), () -> model.share(j, which));
    }

    private void doBoard() {
        compare("board()", room::board, model::board);
    }

    private void doTold(int i) {
        compare(name("told", i), () -> room.told(i), () -> model.told(i));
    }

    private void doDigest(int i) {
        compare(name("digest", i), () -> room.digest(i), () -> model.digest(i));
    }

    private void doKey() {
        compare("key()", room::key, model::key);
    }

    private void doRecover(int who) {
        compare(name("recover", who), () -> room.recover(who), () -> model.recover(who));
    }

    private void doRefresh() {
        change("refresh()", () -> none(room::refresh), () -> none(model::refresh));
    }

    private void doHandOn(int who, int s, int m) {
        change(name("handOn", who, s, m), () -> none(() -> room.handOn(who, s, m)),
                () -> none(() -> model.handOn(who, s, m)));
    }
}
