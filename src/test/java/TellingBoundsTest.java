import java.nio.ByteBuffer;
import java.security.MessageDigest;
import java.security.NoSuchAlgorithmException;
import java.util.ArrayList;
import java.util.List;
import java.util.function.Consumer;

/** Boundary cases of promises 12 to 20, what a room tells: one test for each sentence that names one. */
public final class TellingBoundsTest {
    private final Check check = new Check();
    private final Bounds bounds = new Bounds(check);
    private final List<State> states = new ArrayList<>();

    private TellingBoundsTest() {
        states.addAll(State.all(0, 3, 2));
        states.addAll(State.all(1, 1, 1));
        states.addAll(State.all(1, 7, 7));
        states.addAll(State.all(0, 7, 1));
    }

    public static void main(String[] args) throws NoSuchAlgorithmException {
        TellingBoundsTest test = new TellingBoundsTest();
        test.partiesOtherWhats();
        test.partiesWithoutRoom();
        test.partiesNotKnownYet();
        test.partiesThatNeverCrash();
        test.partiesOfSeven();
        test.complaintsNoSuchParty();
        test.complaintsOfNobody();
        test.complaintsOfAll();
        test.receivedNoSuchSender();
        test.receivedNoSuchReceiver();
        test.receivedNoSuchWhich();
        test.receivedNothing();
        test.commitmentNoSuchParty();
        test.commitmentNoSuchCoefficient();
        test.commitmentNoSuchWhich();
        test.commitmentNotShown();
        test.commitmentShowedFewer();
        test.shareNoSuchParty();
        test.shareNoSuchWhich();
        test.shareNotKnownYet();
        test.shareOfFailedRooms();
        test.boardWithoutRoom();
        test.boardOfNoBytes();
        test.boardOfMostBytes();
        test.toldNoSuchByte();
        test.toldOfNoBytes();
        test.toldIsFrom0To255();
        test.toldHigherByteFirst();
        test.digestNoSuchWord();
        test.digestOfNoBytes();
        test.digestOfEachBoard();
        test.keyOfWhatIsNotDone();
        test.tellingChangesNothing();
        test.objectOf512Calls();
        test.check.finish("TellingBoundsTest");
    }

    private void refusesArgument(State state, String what, Consumer<SharingRoom> call) {
        bounds.refused(what, state.story(), Story.ARGUMENT, call);
    }

    /** Promise 12: "-1 for other whats." */
    private void partiesOtherWhats() {
        for (State state : states) {
            SharingRoom x = state.story().told();
            Bounds.eachOutside(0, 3, what -> check.equal(state + ": parties " + what, x.parties(what), -1));
            Bounds.each(0, 3, what ->
                    check.equal(state + ": no party too many", x.parties(what) & ~state.everybody(), 0));
        }
    }

    /** Promise 12: "0 .. if there is no room". */
    private void partiesWithoutRoom() {
        Bounds.each(0, 3, what -> check.equal("parties " + what, new SharingRoom().parties(what), 0));
        SharingRoom refused = new SharingRoom();
        Story.answerOf(() -> refused.begin(0, 8, 1));
        Bounds.each(0, 3, what -> check.equal("parties " + what, refused.parties(what), 0));
    }

    /** Promise 12: "0 as long as that is not known". */
    private void partiesNotKnownYet() {
        SharingRoom x = Rooms.many(7, 2);
        x.fault(3, 5, 0);
        x.crash(7, 5);
        for (int round = 0; round <= 7; round++) {
            check.equal("qualified after round " + round, x.parties(0), round < 4 ? 0 : 127);
            check.equal("accused after round " + round, x.parties(1), round < 6 ? 0 : 4);
            check.equal("opened after round " + round, x.parties(2), round < 7 ? 0 : 68);
            check.equal("working after round " + round, x.parties(3), round < 4 ? 127 : 63);
            if (round < 7) {
                x.next();
            }
        }
    }

    /** Promise 12: "(3; of a room that is DONE or FAILED all that never crash)". */
    private void partiesThatNeverCrash() {
        SharingRoom done = Rooms.many(7, 1);
        Bounds.each(1, 7, i -> done.crash(i, i + 1));
        Rooms.done(done);
        check.equal("done", done.state(), 2);
        check.equal("done: one with 8 alone", done.parties(3), 64);
        SharingRoom first = Rooms.many(7, 7);
        Bounds.each(1, 7, i -> first.fault(i, 0, 0));
        Bounds.each(1, 7, i -> first.crash(i, i + 1));
        Rooms.rounds(first, 4);
        check.equal("failed in round 4: one with 8 alone", first.parties(3), 64);
        SharingRoom last = Rooms.many(7, 7);
        Bounds.each(1, 7, i -> last.fault(i, 5, 0));
        last.crash(7, 7);
        Rooms.done(last);
        check.equal("failed in round 7", last.state(), 3);
        check.equal("failed in round 7: all but one", last.parties(3), 63);
        SharingRoom nobody = Rooms.many(2, 1);
        Bounds.each(1, 2, i -> nobody.crash(i, 7));
        Rooms.rounds(nobody, 6);
        check.equal("nobody works in the round to come", nobody.parties(3), 0);
        nobody.next();
        check.equal("nobody never crashes", nobody.parties(3), 0);
        nobody.refresh();
        check.equal("all work when refreshed", nobody.parties(3), 3);
    }

    /** Promise 12: "bit i - 1 for party i": the first and the last. */
    private void partiesOfSeven() {
        for (int i = 1; i <= 7; i++) {
            SharingRoom x = Rooms.many(7, 2);
            int one = i;
            Bounds.each(1, 7, j -> x.fault(j, j == one ? 5 : 0, 0));
            Rooms.done(x);
            int bit = 1 << i - 1;
            check.equal("qualified", x.parties(0), bit);
            check.equal("accused", x.parties(1), bit);
            check.equal("opened", x.parties(2), bit);
            SharingRoom y = Rooms.many(7, 2);
            Bounds.each(1, 7, j -> y.crash(j, j == one ? 2 : 1));
            check.equal("works in round 1", y.parties(3), bit);
            y.next();
            check.equal("works in round 2", y.parties(3), 0);
        }
    }

    /** Promise 13: "IllegalArgumentException if there is no such party." */
    private void complaintsNoSuchParty() {
        for (State state : states) {
            Bounds.eachOutside(1, state.n(), i -> refusesArgument(state, "complaints " + i, x -> x.complaints(i)));
            if (state.hasRoom()) {
                bounds.allowed("complaints of the first", state.story(), x -> x.complaints(1));
                bounds.allowed("complaints of the last", state.story(), x -> x.complaints(state.n()));
            }
        }
    }

    /** Promise 13: "0 if nobody did." */
    private void complaintsOfNobody() {
        for (int n = 1; n <= 7; n++) {
            SharingRoom x = Rooms.many(n, n);
            for (int round = 0; round <= 7; round++) {
                for (int i = 1; i <= n; i++) {
                    check.equal("about " + i, x.complaints(i), 0);
                }
                if (round < 7) {
                    x.next();
                }
            }
        }
    }

    /** Promise 13: "Who complained about party i, as bits": all others, and each alone. */
    private void complaintsOfAll() {
        for (int i = 1; i <= 7; i++) {
            SharingRoom all = Rooms.many(7, 3);
            int slandered = i;
            Bounds.each(1, 7, j -> {
                if (j != slandered) {
                    all.fault(j, 2, slandered);
                }
            });
            all.next();
            check.equal("before round 2", all.complaints(i), 0);
            all.next();
            check.equal("all about " + i, all.complaints(i), 127 - (1 << i - 1));
            int other = i % 7 + 1;
            SharingRoom one = Rooms.many(7, 3);
            one.fault(other, 2, i);
            Rooms.rounds(one, 2);
            check.equal(other + " about " + i, one.complaints(i), 1 << other - 1);
        }
    }

    /** Promise 14: "IllegalArgumentException if there is no such party or which": i. */
    private void receivedNoSuchSender() {
        for (State state : states) {
            Bounds.eachOutside(1, state.n(), i -> refusesArgument(state, "received of " + i, x -> x.received(i, 1, 0)));
            if (state.hasRoom()) {
                bounds.unchanged("received of the last", state.story(), x -> x.received(state.n(), 1, 0));
            }
        }
    }

    /** Promise 14: "IllegalArgumentException if there is no such party or which": j. */
    private void receivedNoSuchReceiver() {
        for (State state : states) {
            Bounds.eachOutside(1, state.n(), j -> refusesArgument(state, "received by " + j, x -> x.received(1, j, 1)));
            if (state.hasRoom()) {
                bounds.allowed("received by the last of the last", state.story(),
                        x -> x.received(state.n(), state.n(), 1));
            }
        }
    }

    /** Promise 14: "IllegalArgumentException if there is no such party or which": which. */
    private void receivedNoSuchWhich() {
        for (State state : states) {
            Bounds.eachOutside(0, 1, which ->
                    refusesArgument(state, "received " + which, x -> x.received(1, 1, which)));
        }
    }

    /** Promise 14: "-1 if it has nothing." */
    private void receivedNothing() {
        SharingRoom x = Rooms.many(7, 1);
        x.fault(7, 0, 0);
        for (int round = 0; round <= 7; round++) {
            for (int j = 1; j <= 7; j += 3) {
                for (int which = 0; which < 2; which++) {
                    check.equal("of a silent one, after " + round, x.received(7, j, which), -1);
                    int due = which == 0 ? 10 : 1;
                    check.equal("of the first, after " + round, x.received(1, j, which), round == 0 ? -1 : due);
                }
            }
            if (round < 7) {
                x.next();
            }
        }
        SharingRoom zero = new SharingRoom();
        zero.begin(0, 1, 1);
        zero.next();
        check.equal("0 is something", zero.received(1, 1, 0), 0);
        zero.begin(0, 1, 1);
        check.equal("nothing in a new room", zero.received(1, 1, 0), -1);
    }

    /** Promise 15: "IllegalArgumentException if there is no such party, k (0 .. t - 1) or which": i. */
    private void commitmentNoSuchParty() {
        for (State state : states) {
            Bounds.eachOutside(1, state.n(), i ->
                    refusesArgument(state, "commitment of " + i, x -> x.commitment(i, 0, 0)));
            if (state.hasRoom()) {
                bounds.allowed("commitment of the last", state.story(), x -> x.commitment(state.n(), 0, 0));
            }
        }
    }

    /** Promise 15: "IllegalArgumentException if there is no such party, k (0 .. t - 1) or which": k. */
    private void commitmentNoSuchCoefficient() {
        for (State state : states) {
            if (state.hasRoom()) {
                Bounds.eachOutside(0, state.t() - 1, k -> {
                    refusesArgument(state, "commitment " + k, x -> x.commitment(1, k, 0));
                    refusesArgument(state, "commitment " + k, x -> x.commitment(1, k, 1));
                });
                bounds.allowed("the last commitment", state.story(), x -> x.commitment(1, state.t() - 1, 1));
            }
        }
    }

    /** Promise 15: "IllegalArgumentException if there is no such party, k (0 .. t - 1) or which": which. */
    private void commitmentNoSuchWhich() {
        for (State state : states) {
            Bounds.eachOutside(0, 1, which ->
                    refusesArgument(state, "commitment which " + which, x -> x.commitment(1, 0, which)));
        }
    }

    /** Promise 15: "-1 if it did not". */
    private void commitmentNotShown() {
        SharingRoom x = Rooms.many(3, 2);
        x.fault(2, 0, 0);
        x.crash(3, 5);
        for (int round = 0; round <= 7; round++) {
            for (int k = 0; k < 2; k++) {
                String what = "after " + round + ", k = " + k;
                check.equal("C(2, k) " + what, x.commitment(2, k, 0), -1);
                check.equal("A(2, k) " + what, x.commitment(2, k, 1), -1);
                check.equal("A(3, k) " + what, x.commitment(3, k, 1), -1);
                boolean noC = x.commitment(3, k, 0) == -1;
                check.same("C(3, k) " + what, String.valueOf(noC), String.valueOf(round == 0));
                int power = Slow.powerOfG(0, k == 0 ? 10 : 1);
                check.equal("A(1, k) " + what, x.commitment(1, k, 1), round < 5 ? -1 : power);
            }
            if (round < 7) {
                x.next();
            }
        }
    }

    /** Promise 15: "(or showed fewer)": after handing on to a greater threshold. */
    private void commitmentShowedFewer() {
        for (int t = 1; t <= 7; t++) {
            SharingRoom x = Rooms.done(Rooms.many(7, t));
            x.handOn(127, 7, 7);
            for (int k = 0; k < 7; k++) {
                for (int which = 0; which < 2; which++) {
                    boolean shown = x.commitment(7, k, which) != -1;
                    check.same("k = " + k + " of " + t, String.valueOf(shown), String.valueOf(k < t));
                }
            }
        }
    }

    /** Promise 16: "IllegalArgumentException if there is no such party or which": the party. */
    private void shareNoSuchParty() {
        for (State state : states) {
            Bounds.eachOutside(1, state.n(), j -> {
                refusesArgument(state, "share of " + j, x -> x.share(j, 0));
                refusesArgument(state, "blind of " + j, x -> x.share(j, 1));
            });
            if (state.hasRoom()) {
                bounds.allowed("share of the last", state.story(), x -> x.share(state.n(), 0));
            }
        }
    }

    /** Promise 16: "IllegalArgumentException if there is no such party or which": which. */
    private void shareNoSuchWhich() {
        for (State state : states) {
            Bounds.eachOutside(0, 1, which -> refusesArgument(state, "share which " + which, x -> x.share(1, which)));
        }
    }

    /** Promise 16: "-1 before they are known". */
    private void shareNotKnownYet() {
        SharingRoom x = Rooms.many(7, 1);
        for (int round = 0; round <= 7; round++) {
            for (int j = 1; j <= 7; j += 6) {
                check.equal("share after " + round, x.share(j, 0), round < 4 ? -1 : 280);
                check.equal("blind after " + round, x.share(j, 1), round < 4 ? -1 : 28);
            }
            if (round < 7) {
                x.next();
            }
        }
        SharingRoom zero = new SharingRoom();
        zero.begin(1, 1, 1);
        Rooms.rounds(zero, 4);
        check.equal("0 is a share", zero.share(1, 0), 0);
        zero.begin(1, 1, 1);
        check.equal("none in a new room", zero.share(1, 0), -1);
        check.equal("no blind in a new room", zero.share(1, 1), -1);
    }

    /** Promise 16: "-1 .. if the room FAILED in round 4", not if it failed in round 7. */
    private void shareOfFailedRooms() {
        for (State state : states) {
            if (state.is(State.Stage.FAILED)) {
                SharingRoom x = state.story().told();
                boolean late = x.parties(0) != 0;
                for (int j = 1; j <= state.n(); j++) {
                    check.same(state + ": share", String.valueOf(x.share(j, 0) != -1), String.valueOf(late));
                    check.same(state + ": blind", String.valueOf(x.share(j, 1) != -1), String.valueOf(late));
                }
            }
        }
        SharingRoom out = Rooms.many(2, 1);
        out.fault(1, 2, 2);
        out.fault(2, 2, 1);
        Rooms.rounds(out, 4);
        check.equal("all dealt, but all are out", out.state(), 3);
        check.equal("no share of these", out.share(1, 0), -1);
        check.equal("no blind of these", out.share(2, 1), -1);
    }

    /** Promise 17: "0 if there is no room." */
    private void boardWithoutRoom() {
        check.equal("no room", new SharingRoom().board(), 0);
    }

    /** Promise 17: "How many bytes the board has": none before the first message. */
    private void boardOfNoBytes() {
        SharingRoom x = Rooms.done(Rooms.many(7, 7));
        check.equal("of seven", x.board(), 224);
        x.begin(0, 7, 7);
        check.equal("a new room", x.board(), 0);
        Bounds.each(1, 7, i -> x.crash(i, 1));
        Rooms.rounds(x, 4);
        check.equal("nobody showed anything", x.board(), 0);
    }

    /** Promise 17: "How many bytes the board has": the most, of both groups. */
    private void boardOfMostBytes() {
        for (int group = 0; group < 2; group++) {
            SharingRoom x = new SharingRoom();
            x.begin(group, 7, 7);
            for (int i = 1; i <= 7; i++) {
                x.fault(i, 1, i % 7 + 1);
                x.fault(i, 2, (i + 1) % 7 + 1);
                x.fault(i, 5, 0);
            }
            int[] due = {112, 154, 252, 252, 364, 707, 1050};
            for (int size : due) {
                x.next();
                check.equal("the most bytes", x.board(), size);
            }
            check.equal("its last message", x.told(1043), 7);
            check.equal("shown by 7", x.told(1044), 7);
            check.equal("of 7", x.told(1045), 7);
            check.same("one behind", Story.answerOf(() -> x.told(1050)), Story.INDEX);
        }
    }

    /** Promise 18: "IndexOutOfBoundsException if there is none such." */
    private void toldNoSuchByte() {
        for (State state : states) {
            int size = state.story().told().board();
            Bounds.eachOutside(0, size - 1, i ->
                    bounds.refused("told " + i, state.story(), Story.INDEX, x -> x.told(i)));
            if (size > 0) {
                bounds.allowed("the first", state.story(), x -> x.told(0));
                bounds.allowed("the last", state.story(), x -> x.told(size - 1));
            }
        }
    }

    /** Promise 18: "IndexOutOfBoundsException if there is none such.", of a board without bytes. */
    private void toldOfNoBytes() {
        int[] some = {Integer.MIN_VALUE, -1, 0, 1, Integer.MAX_VALUE};
        Story[] empty = {
            Story.of("new"), Story.of("before rounds").then(x -> x.begin(0, 7, 7)),
            Story.of("after another room").then(x -> Rooms.done(withRoom(x))).then(x -> x.begin(1, 1, 1))
        };
        for (Story story : empty) {
            for (int i : some) {
                bounds.refused("told " + i, story, Story.INDEX, x -> x.told(i));
            }
        }
    }

    private static SharingRoom withRoom(SharingRoom x) {
        x.begin(0, 7, 7);
        return x;
    }

    /** Promise 18: "A byte of the board (0 .. 255)." */
    private void toldIsFrom0To255() {
        boolean[] seen = new boolean[256];
        for (int a = 0; a < 1019; a++) {
            SharingRoom x = new SharingRoom();
            x.begin(0, 1, 1);
            x.give(1, 0, 0, a);
            x.next();
            int element = Slow.powerOfG(0, a);
            check.equal("the higher byte of " + element, x.told(2), element / 256);
            check.equal("the lower byte of " + element, x.told(3), element % 256);
            seen[x.told(3)] = true;
        }
        for (int value = 0; value < 256; value++) {
            check.same("a byte " + value, String.valueOf(seen[value]), "true");
        }
    }

    /** BOARD: "Elements and numbers are two bytes, the higher first." */
    private void toldHigherByteFirst() {
        SharingRoom x = new SharingRoom();
        x.begin(0, 2, 2);
        x.give(1, 0, 0, 1018);
        x.give(1, 0, 1, 256);
        x.fault(2, 2, 1);
        Rooms.rounds(x, 3);
        int from = x.board() - 4;
        int[] due = {3, 250, 1, 0};
        for (int k = 0; k < 4; k++) {
            check.equal("1018 and 256, byte " + k, x.told(from + k), due[k]);
        }
        x.begin(1, 1, 1);
        x.give(1, 0, 1, 1);
        Rooms.rounds(x, 5);
        check.equal("64 * 21 + 18, the higher byte", x.told(2), 5);
        check.equal("64 * 21 + 18, the lower byte", x.told(3), 82);
        check.equal("4000, the higher byte", x.told(6), 15);
        check.equal("4000, the lower byte", x.told(7), 160);
    }

    /** Promise 19: "Word i (0 .. 7)", "IndexOutOfBoundsException if there is none such." */
    private void digestNoSuchWord() {
        for (State state : states) {
            Bounds.eachOutside(0, 7, i ->
                    bounds.refused("digest " + i, state.story(), Story.INDEX, x -> x.digest(i)));
            bounds.allowed("the first word", state.story(), x -> x.digest(0));
            bounds.allowed("the last word", state.story(), x -> x.digest(7));
        }
    }

    /** Promise 19: "of the board's bytes (without a room of none)". */
    private void digestOfNoBytes() {
        int[] none = {
            0xe3b0c442, 0x98fc1c14, 0x9afbf4c8, 0x996fb924, 0x27ae41e4, 0x649b934c, 0xa495991b, 0x7852b855
        };
        SharingRoom x = new SharingRoom();
        for (int word = 0; word < 8; word++) {
            check.equal("no room, word " + word, x.digest(word), none[word]);
        }
        Rooms.done(withRoom(x));
        x.begin(0, 2, 2);
        for (int word = 0; word < 8; word++) {
            check.equal("an empty board, word " + word, x.digest(word), none[word]);
        }
    }

    /** Promise 19: "of the SHA-256 digest (FIPS 180-4) of the board's bytes", in every state. */
    private void digestOfEachBoard() throws NoSuchAlgorithmException {
        for (State state : states) {
            SharingRoom x = state.story().told();
            byte[] bytes = new byte[x.board()];
            for (int k = 0; k < bytes.length; k++) {
                // A new object for each hundred, since one is used for 512 calls at most.
                x = k % 100 == 0 ? state.story().told() : x;
                bytes[k] = (byte) x.told(k);
            }
            ByteBuffer due = ByteBuffer.wrap(MessageDigest.getInstance("SHA-256").digest(bytes));
            for (int word = 0; word < 8; word++) {
                check.equal(state + ": word " + word, x.digest(word), due.getInt(4 * word));
            }
        }
    }

    /** Promise 20: "-1 if the room is not DONE." */
    private void keyOfWhatIsNotDone() {
        for (State state : states) {
            boolean none = state.story().told().key() == -1;
            check.same(state + ": no key", String.valueOf(none), String.valueOf(!state.is(State.Stage.DONE)));
        }
        SharingRoom x = Rooms.done(Rooms.many(2, 1));
        x.begin(0, 2, 1);
        check.equal("a new room has none", x.key(), -1);
    }

    /** Promises 11 to 20: nothing that is asked changes anything. */
    private void tellingChangesNothing() {
        for (State state : states) {
            bounds.unchanged("telling", state.story(), x -> {
                x.degree();
                x.state();
                Bounds.each(-1, 4, x::parties);
                x.board();
                x.key();
                Bounds.each(0, 7, x::digest);
                Story.answerOf(() -> x.told(0));
                Story.answerOf(() -> x.complaints(1));
                Story.answerOf(() -> x.received(1, 1, 0));
                Story.answerOf(() -> x.commitment(1, 0, 0));
                Story.answerOf(() -> x.share(1, 0));
                Story.answerOf(() -> x.recover(state.everybody()));
                Story.answerOf(() -> x.combine(0));
            });
        }
    }

    /** "An object is used for at most 512 calls after it has been made": the last of these is as due. */
    private void objectOf512Calls() {
        SharingRoom x = new SharingRoom();
        int calls = 0;
        while (calls + 8 <= 510) {
            x.begin(0, 7, 7);
            Rooms.rounds(x, 7);
            calls += 8;
        }
        while (calls < 511) {
            x.field(1);
            calls++;
        }
        check.equal("the 512th call", x.board(), 224);
        SharingRoom y = new SharingRoom();
        y.begin(0, 7, 7);
        Rooms.done(y);
        for (int k = 9; k <= 511; k++) {
            y.refresh();
        }
        check.equal("the 512th call after refreshing", y.recover(127), 0);
        SharingRoom z = new SharingRoom();
        z.begin(0, 7, 7);
        z.give(1, 0, 0, 1018);
        Rooms.done(z);
        for (int k = 10; k <= 511; k++) {
            z.handOn(127, 7, 7);
        }
        check.equal("the 512th call after handing on", z.recover(127), 1018);
    }
}
