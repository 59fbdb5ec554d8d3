import java.io.ByteArrayOutputStream;
import java.nio.ByteBuffer;
import java.security.MessageDigest;
import java.security.NoSuchAlgorithmException;
import java.util.ArrayList;
import java.util.List;
import java.util.Map;
import java.util.TreeMap;
import java.util.TreeSet;

/**
 * The document once more, with the Java library and by other ways than the program: group elements
 * are held as exponents, sets as sets, polynomials are written out.
 */
final class Model {
    private int field;
    private final TreeMap<Integer, Integer> points = new TreeMap<>();

    private int group = -1;
    private int exponentOfH;
    private int n;
    private int t;
    private int rounds;
    private boolean failed;
    private int[][][] coefficients;
    private List<Map<Integer, Integer>> faults;
    private int[] crashes;
    private Map<String, int[]> sent;
    private Map<String, int[]> answers;
    private Map<Integer, int[]> committed;
    private Map<Integer, int[]> extracted;
    private TreeSet<String> complaints;
    private TreeSet<Integer> qualified;
    private TreeSet<Integer> accused;
    private TreeSet<Integer> opened;
    private Map<Integer, int[]> shares;
    private int keyExponent;
    private ByteArrayOutputStream board = new ByteArrayOutputStream();

    // Points.

    void field(int f) {
        argument(f >= 0 && f <= 2);
        field = f;
        points.clear();
    }

    int point(int x, int y) {
        argument(x >= 1 && x < Slow.sizeOf(field) && y >= 0 && y < Slow.sizeOf(field));
        state(!points.containsKey(x) && points.size() < 12);
        points.put(x, y);
        return points.size();
    }

    int combine(int x) {
        argument(x >= 0 && x < Slow.sizeOf(field));
        state(!points.isEmpty());
        return Slow.evaluate(field, Slow.interpolate(field, points), x);
    }

    int degree() {
        int[] polynomial = Slow.interpolate(field, points);
        int count = polynomial.length;
        while (count > 0 && polynomial[count - 1] == 0) {
            count--;
        }
        return count;
    }

    // Groups: an element is its exponent to the base g.

    private int q() {
        return Slow.sizeOf(group + 1);
    }

    private int tell(int exponent) {
        return Slow.powerOfG(group, exponent);
    }

    private int exponentOf(int told) {
        for (int exponent = 0; exponent < q(); exponent++) {
            if (tell(exponent) == told) {
                return exponent;
            }
        }
        throw new AssertionError("not in the group");
    }

    // The room before its rounds.

    void begin(int newGroup, int size, int threshold) {
        argument(newGroup >= 0 && newGroup <= 1 && size >= 1 && size <= 7 && threshold >= 1 && threshold <= size);
        group = newGroup;
        exponentOfH = exponentOf(group == 0 ? 9 : 64 * 21 + 18);
        n = size;
        t = threshold;
        rounds = 0;
        failed = false;
        sent = new TreeMap<>();
        answers = new TreeMap<>();
        committed = new TreeMap<>();
        extracted = new TreeMap<>();
        complaints = new TreeSet<>();
        qualified = new TreeSet<>();
        accused = new TreeSet<>();
        opened = new TreeSet<>();
        shares = new TreeMap<>();
        keyExponent = 0;
        board = new ByteArrayOutputStream();
        forget();
    }

    private void forget() {
        coefficients = new int[8][2][7];
        crashes = new int[] {8, 8, 8, 8, 8, 8, 8, 8};
        faults = new ArrayList<>();
        for (int i = 0; i < 8; i++) {
            faults.add(new TreeMap<>());
        }
    }

    private boolean isParty(int i) {
        return group >= 0 && i >= 1 && i <= n;
    }

    void give(int i, int k, int which, int value) {
        state(group >= 0 && (rounds == 0 || state() != 1));
        argument(isParty(i) && k >= 0 && k < t && which >= 0 && which <= 1);
        coefficients[i][which][k] = Math.floorMod(value, q());
    }

    void fault(int i, int kind, int j) {
        state(group >= 0 && rounds == 0);
        argument(isParty(i) && kind >= 0 && kind <= 6);
        argument(kind != 1 && kind != 2 || isParty(j) && j != i);
        faults.get(i).put(kind, j);
    }

    void crash(int i, int round) {
        state(group >= 0 && rounds == 0);
        argument(isParty(i) && round >= 1 && round <= 8);
        crashes[i] = round;
    }

    // Rounds.

    int next() {
        state(state() == 1);
        rounds++;
        switch (rounds) {
            case 1 -> deal();
            case 2 -> complain();
            case 3 -> answer();
            case 4 -> judge();
            case 5 -> extract();
            case 6 -> accuse();
            default -> open();
        }
        return rounds;
    }

    private boolean works(int i) {
        return rounds < crashes[i];
    }

    private boolean has(int i, int kind) {
        return faults.get(i).containsKey(kind);
    }

    private boolean isAbout(int i, int kind, int j) {
        return has(i, kind) && faults.get(i).get(kind) == j;
    }

    private static String pair(int i, int j) {
        return i + "," + j;
    }

    private int[] trueNumbers(int i, int j, int added) {
        int first = Slow.evaluate(group + 1, coefficients[i][0], j);
        return new int[] {(first + added) % q(), Slow.evaluate(group + 1, coefficients[i][1], j)};
    }

    /** In exponents: whether u + v log h is the polynomial of what i committed to, at j. */
    private boolean fits(int i, int j, int[] numbers) {
        int due = Slow.evaluate(group + 1, committed.get(i), j);
        return (numbers[0] + numbers[1] * exponentOfH) % q() == due;
    }

    private void show(int kind, int party, int... rest) {
        board.write(kind);
        board.write(party);
        for (int one : rest) {
            board.write(one);
        }
    }

    private void showPairs(boolean elements, int... values) {
        for (int value : values) {
            int told = elements ? tell(value) : value;
            board.write(told / 256);
            board.write(told % 256);
        }
    }

    private void deal() {
        for (int i = 1; i <= n; i++) {
            if (!works(i) || has(i, 0)) {
                continue;
            }
            int[] exponents = new int[t];
            for (int k = 0; k < t; k++) {
                exponents[k] = (coefficients[i][0][k] + coefficients[i][1][k] * exponentOfH) % q();
            }
            committed.put(i, exponents);
            show(1, i);
            showPairs(true, exponents);
            for (int j = 1; j <= n; j++) {
                sent.put(pair(i, j), trueNumbers(i, j, isAbout(i, 1, j) ? 1 : 0));
            }
        }
    }

    private void complain() {
        for (int j = 1; j <= n; j++) {
            for (int i = 1; i <= n; i++) {
                if (works(j) && committed.containsKey(i)
                        && (!fits(i, j, sent.get(pair(i, j))) || isAbout(j, 2, i))) {
                    complaints.add(pair(i, j));
                    show(2, j, i);
                }
            }
        }
    }

    private void answer() {
        for (int i = 1; i <= n; i++) {
            for (int j = 1; j <= n; j++) {
                if (complaints.contains(pair(i, j)) && works(i) && !has(i, 3)) {
                    answers.put(pair(i, j), trueNumbers(i, j, has(i, 4) ? 1 : 0));
                    show(3, i, j);
                    showPairs(false, answers.get(pair(i, j)));
                }
            }
        }
    }

    private void judge() {
        for (int i = 1; i <= n; i++) {
            int count = 0;
            boolean good = committed.containsKey(i);
            for (int j = 1; j <= n; j++) {
                if (complaints.contains(pair(i, j))) {
                    count++;
                    int[] answered = answers.get(pair(i, j));
                    good = good && answered != null && fits(i, j, answered);
                }
            }
            if (good && count < t) {
                qualified.add(i);
            }
        }
        sent.putAll(answers);
        failed = qualified.isEmpty();
        for (int j = 1; j <= n && !failed; j++) {
            int[] sum = {0, 0};
            for (int i : qualified) {
                sum[0] = (sum[0] + sent.get(pair(i, j))[0]) % q();
                sum[1] = (sum[1] + sent.get(pair(i, j))[1]) % q();
            }
            shares.put(j, sum);
        }
    }

    private void extract() {
        for (int i : qualified) {
            if (works(i)) {
                int[] exponents = new int[t];
                System.arraycopy(coefficients[i][0], 0, exponents, 0, t);
                exponents[0] = (exponents[0] + (has(i, 5) ? 1 : 0)) % q();
                extracted.put(i, exponents);
                show(5, i);
                showPairs(true, exponents);
            }
        }
    }

    private void accuse() {
        for (int j = 1; j <= n; j++) {
            for (int i : qualified) {
                int[] numbers = sent.get(pair(i, j));
                if (works(j) && extracted.containsKey(i) && fits(i, j, numbers)
                        && numbers[0] != Slow.evaluate(group + 1, extracted.get(i), j)) {
                    accused.add(i);
                    show(6, j, i);
                    showPairs(false, numbers);
                }
            }
        }
    }

    private void open() {
        for (int i : qualified) {
            if (extracted.containsKey(i) && !accused.contains(i)) {
                keyExponent += extracted.get(i)[0];
                continue;
            }
            TreeMap<Integer, Integer> taken = new TreeMap<>();
            for (int j = 1; j <= n; j++) {
                if (works(j)) {
                    int[] numbers = sent.get(pair(i, j)).clone();
                    numbers[0] = (numbers[0] + (has(j, 6) ? 1 : 0)) % q();
                    show(7, j, i);
                    showPairs(false, numbers);
                    if (fits(i, j, numbers)) {
                        taken.put(j, numbers[0]);
                    }
                }
            }
            while (taken.size() > t) {
                taken.pollLastEntry();
            }
            if (taken.size() == t) {
                opened.add(i);
                keyExponent += Slow.evaluate(group + 1, Slow.interpolate(group + 1, taken), 0);
            } else {
                failed = true;
            }
        }
    }

    // What is told.

    int state() {
        if (group < 0) {
            return 0;
        }
        return failed ? 3 : rounds == 7 ? 2 : 1;
    }

    int parties(int what) {
        if (what < 0 || what > 3) {
            return -1;
        }
        int bits = 0;
        for (int i = 1; i <= 7; i++) {
            boolean working = state() == 1 ? rounds + 1 < crashes[i] : group >= 0 && crashes[i] == 8;
            if (isParty(i) && (what == 0 && qualified.contains(i) || what == 1 && accused.contains(i)
                    || what == 2 && opened.contains(i) || what == 3 && working)) {
                bits += 1 << i - 1;
            }
        }
        return bits;
    }

    int complaints(int i) {
        argument(isParty(i));
        int bits = 0;
        for (int j = 1; j <= n; j++) {
            bits += complaints.contains(pair(i, j)) ? 1 << j - 1 : 0;
        }
        return bits;
    }

    int received(int i, int j, int which) {
        argument(isParty(i) && isParty(j) && which >= 0 && which <= 1);
        int[] numbers = sent.get(pair(i, j));
        return numbers == null ? -1 : numbers[which];
    }

    int commitment(int i, int k, int which) {
        argument(isParty(i) && k >= 0 && k < t && which >= 0 && which <= 1);
        int[] exponents = (which == 0 ? committed : extracted).get(i);
        return exponents == null || k >= exponents.length ? -1 : tell(exponents[k]);
    }

    int share(int j, int which) {
        argument(isParty(j) && which >= 0 && which <= 1);
        return shares.containsKey(j) ? shares.get(j)[which] : -1;
    }

    int board() {
        return board.size();
    }

    int told(int i) {
        bounds(i >= 0 && i < board.size());
        return board.toByteArray()[i] & 255;
    }

    int digest(int i) {
        bounds(i >= 0 && i < 8);
        try {
            byte[] hash = MessageDigest.getInstance("SHA-256").digest(board.toByteArray());
            return ByteBuffer.wrap(hash).getInt(4 * i);
        } catch (NoSuchAlgorithmException e) {
            throw new AssertionError(e);
        }
    }

    int key() {
        return state() == 2 ? tell(keyExponent % q()) : -1;
    }

    // Afterwards.

    private TreeMap<Integer, Integer> sharesOf(int who) {
        TreeMap<Integer, Integer> some = new TreeMap<>();
        for (int i = 1; i <= 32; i++) {
            if ((who >>> i - 1 & 1) == 1) {
                argument(isParty(i));
                some.put(i, shares.get(i)[0]);
            }
        }
        argument(some.size() >= t);
        return some;
    }

    int recover(int who) {
        state(state() == 2);
        return Slow.evaluate(group + 1, Slow.interpolate(group + 1, sharesOf(who)), 0);
    }

    void refresh() {
        state(state() == 2);
        for (int i = 1; i <= n; i++) {
            int[] polynomial = coefficients[i][0].clone();
            polynomial[0] = 0;
            for (int j = 1; j <= n && crashes[i] == 8; j++) {
                shares.get(j)[0] = (shares.get(j)[0] + Slow.evaluate(group + 1, polynomial, j)) % q();
            }
        }
        for (int[] both : shares.values()) {
            both[1] = 0;
        }
        forget();
    }

    void handOn(int who, int s, int m) {
        state(state() == 2);
        TreeMap<Integer, Integer> old = sharesOf(who);
        argument(m >= 1 && m <= 7 && s >= 1 && s <= m);
        TreeMap<Integer, int[]> fresh = new TreeMap<>();
        for (int j = 1; j <= m; j++) {
            // What j gets, combined as the shares are: the value at 0 of the polynomial through it.
            TreeMap<Integer, Integer> got = new TreeMap<>();
            for (int i : old.keySet()) {
                int[] polynomial = new int[s];
                System.arraycopy(coefficients[i][0], 0, polynomial, 0, s);
                polynomial[0] = old.get(i);
                got.put(i, Slow.evaluate(group + 1, polynomial, j));
            }
            fresh.put(j, new int[] {Slow.evaluate(group + 1, Slow.interpolate(group + 1, got), 0), 0});
        }
        shares = fresh;
        n = m;
        t = s;
        forget();
    }

    private static void argument(boolean good) {
        if (!good) {
            throw new IllegalArgumentException();
        }
    }

    private static void state(boolean good) {
        if (!good) {
            throw new IllegalStateException();
        }
    }

    private static void bounds(boolean good) {
        if (!good) {
            throw new IndexOutOfBoundsException();
        }
    }
}
