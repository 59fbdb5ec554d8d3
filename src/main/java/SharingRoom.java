import java.util.Arrays;

/**
 * Secrets in shares, and a room of parties that make a common key without anybody knowing it.
 * README.md tells how it is used.
 */
public final class SharingRoom {
    private static final int MOST_PARTIES = 7;
    private static final int NEVER = 8;
    private static final int NOTHING = -1;

    private final Field[] fields;
    private final Points points;
    private final Room room;

    public SharingRoom() {
        Field big = new PrimeField(1019);
        Field small = new PrimeField(31);
        fields = new Field[] {new ByteField(), big, small};
        points = new Points(fields[0]);
        room = new Room(new SquareGroup(big), new CurveGroup(small));
    }

    public void field(int f) throws IllegalArgumentException {
        if (f < 0 || f >= fields.length) {
            throw new IllegalArgumentException("no such field");
        }
        points.clear(fields[f]);
    }

    public int point(int x, int y) throws IllegalArgumentException, IllegalStateException {
        if (x < 1 || !points.inField(x) || !points.inField(y)) {
            throw new IllegalArgumentException("no such point");
        }
        if (points.hasAt(x) || points.isFull()) {
            throw new IllegalStateException("no room for this point");
        }
        points.add(x, y);
        return points.size();
    }

    public int combine(int x) throws IllegalArgumentException, IllegalStateException {
        if (!points.inField(x)) {
            throw new IllegalArgumentException("no element of the field");
        }
        if (points.size() == 0) {
            throw new IllegalStateException("no points");
        }
        return points.valueAt(x);
    }

    public int degree() {
        return points.countCoefficients();
    }

    public void begin(int group, int n, int t) throws IllegalArgumentException {
        if (!room.hasGroup(group) || !Room.isCommittee(n, t)) {
            throw new IllegalArgumentException("no such room");
        }
        room.start(group, n, t);
    }

    public void give(int i, int k, int which, int value)
            throws IllegalStateException, IllegalArgumentException {
        if (!room.takesCoefficients()) {
            throw new IllegalStateException("no room, or in rounds");
        }
        needParty(i);
        needCoefficient(k);
        needWhich(which);
        room.setCoefficient(i, k, which, value);
    }

    public void fault(int i, int kind, int j)
            throws IllegalStateException, IllegalArgumentException {
        needBeforeRounds();
        needParty(i);
        if (kind < 0 || kind >= Party.KINDS) {
            throw new IllegalArgumentException("no such fault");
        }
        if (!Party.concernsAnother(kind)) {
            room.setFault(i, kind, i);
            return;
        }
        needParty(j);
        if (i == j) {
            throw new IllegalArgumentException("not another party");
        }
        room.setFault(i, kind, j);
    }

    public void crash(int i, int round) throws IllegalStateException, IllegalArgumentException {
        needBeforeRounds();
        needParty(i);
        if (round < 1 || round > NEVER) {
            throw new IllegalArgumentException("no such round");
        }
        room.setCrash(i, round);
    }

    public int next() throws IllegalStateException {
        if (room.stage() != Room.IN_ROUNDS) {
            throw new IllegalStateException("no round to come");
        }
        return room.advance();
    }

    public int state() {
        return room.stage();
    }

    public int parties(int what) {
        switch (what) {
            case 0:
                return room.qualifiedBits();
            case 1:
                return room.accusedBits();
            case 2:
                return room.openedBits();
            case 3:
                return room.workingBits();
            default:
                return -1;
        }
    }

    public int complaints(int i) throws IllegalArgumentException {
        needParty(i);
        return room.complaintBits(i);
    }

    public int received(int i, int j, int which) throws IllegalArgumentException {
        needParty(i);
        needParty(j);
        needWhich(which);
        return room.numberOf(i, j, which);
    }

    public int commitment(int i, int k, int which) throws IllegalArgumentException {
        needParty(i);
        needCoefficient(k);
        needWhich(which);
        return room.elementOf(i, k, which);
    }

    public int share(int j, int which) throws IllegalArgumentException {
        needParty(j);
        needWhich(which);
        return room.shareOf(j, which);
    }

    public int board() {
        return room.shownToAll().size();
    }

    public int told(int i) throws IndexOutOfBoundsException {
        if (i < 0 || i >= room.shownToAll().size()) {
            throw new IndexOutOfBoundsException("no such byte");
        }
        return room.shownToAll().byteAt(i);
    }

    public int digest(int i) throws IndexOutOfBoundsException {
        if (i < 0 || i >= Sha256.WORDS) {
            throw new IndexOutOfBoundsException("no such word");
        }
        return room.shownToAll().digestWord(i);
    }

    public int key() {
        return room.stage() == Room.DONE ? room.commonKey() : NOTHING;
    }

    public int recover(int who) throws IllegalStateException, IllegalArgumentException {
        needDone();
        needEnough(who);
        return room.secretOf(who);
    }

    public void refresh() throws IllegalStateException {
        needDone();
        room.renewShares();
    }

    public void handOn(int who, int s, int m)
            throws IllegalStateException, IllegalArgumentException {
        needDone();
        needEnough(who);
        if (!Room.isCommittee(m, s)) {
            throw new IllegalArgumentException("no such committee");
        }
        room.handTo(who, s, m);
    }

    private void needBeforeRounds() {
        if (!room.isBeforeRounds()) {
            throw new IllegalStateException("no room, or a round was done");
        }
    }

    private void needDone() {
        if (room.stage() != Room.DONE) {
            throw new IllegalStateException("not done");
        }
    }

    private void needParty(int i) {
        if (!room.hasParty(i)) {
            throw new IllegalArgumentException("no such party");
        }
    }

    private void needCoefficient(int k) {
        if (!room.hasCoefficient(k)) {
            throw new IllegalArgumentException("no such coefficient");
        }
    }

    private static void needWhich(int which) {
        if (which != 0 && which != 1) {
            throw new IllegalArgumentException("neither the first nor the second");
        }
    }

    private void needEnough(int who) {
        if (!room.isEnough(who)) {
            throw new IllegalArgumentException("not parties enough, or no such party");
        }
    }

    private static int bit(int i) {
        return 1 << (i - 1);
    }

    /** A finite field whose elements are told as 0 .. size - 1. */
    private abstract static class Field {
        final int size;

        Field(int size) {
            // Prime fields divide by their size, so it must never be 0.
            this.size = size > 1 ? size : 2;
        }

        abstract int plus(int u, int v);

        abstract int minus(int u, int v);

        abstract int times(int u, int v);

        final boolean has(int v) {
            return v >= 0 && v < size;
        }

        /** v ^ (size - 2), which is 0 for 0: nothing can throw. */
        final int inverse(int v) {
            int result = 1;
            int square = v;
            for (int rest = size - 2; rest > 0; rest >>= 1) {
                if ((rest & 1) == 1) {
                    result = times(result, square);
                }
                square = times(square, square);
            }
            return result;
        }

        /** The value at x of the polynomial that has start, row[1], .., row[count - 1]. */
        final int polynomialAt(int start, int[] row, int count, int x) {
            int value = 0;
            for (int k = count - 1; k > 0; k--) {
                value = times(plus(value, row[k]), x);
            }
            return plus(value, start);
        }
    }

    private static final class ByteField extends Field {
        private static final int MODULUS = 0x11b;

        ByteField() {
            super(256);
        }

        int plus(int u, int v) {
            return u ^ v;
        }

        int minus(int u, int v) {
            return u ^ v;
        }

        int times(int u, int v) {
            int product = 0;
            int shifted = u;
            for (int k = 0; k < 8; k++) {
                if ((v >> k & 1) == 1) {
                    product ^= shifted;
                }
                shifted <<= 1;
                if (shifted > 255) {
                    shifted ^= MODULUS;
                }
            }
            return product;
        }
    }

    private static final class PrimeField extends Field {
        PrimeField(int prime) {
            super(prime);
        }

        int plus(int u, int v) {
            return (u + v) % size;
        }

        int minus(int u, int v) {
            return (u - v + size) % size;
        }

        int times(int u, int v) {
            return u * v % size;
        }
    }

    /** Points with different x over one field, and the polynomial of least degree through them. */
    private static final class Points {
        private static final int MOST = 12;

        private final int[] xs = new int[MOST];
        private final int[] ys = new int[MOST];
        private final int[] differences = new int[MOST];
        private Field field;
        private int count;

        Points(Field field) {
            this.field = field;
        }

        void clear(Field newField) {
            field = newField;
            count = 0;
        }

        int size() {
            return count;
        }

        boolean isFull() {
            return count == MOST;
        }

        boolean inField(int v) {
            return field.has(v);
        }

        boolean hasAt(int x) {
            for (int k = 0; k < count; k++) {
                if (xs[k] == x) {
                    return true;
                }
            }
            return false;
        }

        void add(int x, int y) {
            if (count < MOST) {
                xs[count] = x;
                ys[count] = y;
                count++;
            }
        }

        int valueAt(int x) {
            int value = 0;
            for (int k = 0; k < count; k++) {
                value = field.plus(value, field.times(weight(k, x), ys[k]));
            }
            return value;
        }

        /** The coefficient with which the y of point k counts for the value at x. */
        int weight(int k, int x) {
            int above = 1;
            int below = 1;
            for (int other = 0; other < count; other++) {
                if (other != k) {
                    above = field.times(above, field.minus(x, xs[other]));
                    below = field.times(below, field.minus(xs[k], xs[other]));
                }
            }
            return field.times(above, field.inverse(below));
        }

        int countCoefficients() {
            // Newton's form ends with the same power of x as the polynomial written out.
            System.arraycopy(ys, 0, differences, 0, count);
            for (int level = 1; level < count; level++) {
                for (int k = count - 1; k >= level; k--) {
                    int rise = field.minus(differences[k], differences[k - 1]);
                    int run = field.minus(xs[k], xs[k - level]);
                    differences[k] = field.times(rise, field.inverse(run));
                }
            }
            int coefficients = count;
            while (coefficients > 0 && differences[coefficients - 1] == 0) {
                coefficients--;
            }
            return coefficients;
        }
    }

    /** A group of prime order, written as a product; its elements are held as they are told. */
    private abstract static class Group {
        final Field exponents;
        final int neutral;
        final int g;
        final int h;

        Group(Field exponents, int neutral, int g, int h) {
            this.exponents = exponents;
            this.neutral = neutral;
            this.g = g;
            this.h = h;
        }

        abstract int product(int u, int v);

        final int power(int u, int k) {
            int result = neutral;
            int square = u;
            for (int rest = k; rest > 0; rest >>= 1) {
                if ((rest & 1) == 1) {
                    result = product(result, square);
                }
                square = product(square, square);
            }
            return result;
        }

        final int commit(int u, int v) {
            return product(power(g, u), power(h, v));
        }

        /** The product of all elements[k] ^ (x ^ k), of the first count ones. */
        final int polynomialInExponents(int[] elements, int count, int x) {
            int value = neutral;
            for (int k = count - 1; k >= 0; k--) {
                value = product(power(value, x), elements[k]);
            }
            return value;
        }
    }

    private static final class SquareGroup extends Group {
        private static final int MODULUS = 2039;

        SquareGroup(Field exponents) {
            super(exponents, 1, 4, 9);
        }

        int product(int u, int v) {
            return u * v % MODULUS;
        }
    }

    private static final class CurveGroup extends Group {
        private static final int MODULUS = 43;

        private final int[] inverses = new int[MODULUS];

        CurveGroup(Field exponents) {
            super(exponents, 4000, 64 * 2 + 12, 64 * 21 + 18);
            for (int u = 1; u < MODULUS; u++) {
                for (int v = 1; v < MODULUS; v++) {
                    if (u * v % MODULUS == 1) {
                        inverses[u] = v;
                    }
                }
            }
        }

        int product(int u, int v) {
            if (u == neutral) {
                return v;
            }
            if (v == neutral) {
                return u;
            }
            int x1 = u >> 6;
            int y1 = u & 63;
            int x2 = v >> 6;
            int y2 = v & 63;
            if (x1 == x2 && y1 + y2 == MODULUS) {
                return neutral;
            }
            int rise = x1 == x2 ? 3 * x1 * x1 : y2 - y1 + MODULUS;
            int run = (x1 == x2 ? 2 * y1 : x2 - x1 + MODULUS) % MODULUS;
            int slope = rise * inverses[run] % MODULUS;
            int x3 = (slope * slope + 2 * MODULUS - x1 - x2) % MODULUS;
            int y3 = (slope * (x1 - x3 + MODULUS) + MODULUS - y1) % MODULUS;
            return x3 << 6 | y3;
        }
    }

    /** What one party of a room has, showed and was told; rows by party have it at its number. */
    private static final class Party {
        static final int SILENT = 0;
        static final int BAD = 1;
        static final int SLANDERS = 2;
        static final int DUMB = 3;
        static final int LIES = 4;
        static final int FORGES = 5;
        static final int WRONG = 6;
        static final int KINDS = 7;

        /** The coefficients a (row 0) and b (row 1). */
        final int[][] coefficients = new int[2][MOST_PARTIES];
        /** By kind: the party that the fault is about (itself, if no other), 0 without it. */
        final int[] faults = new int[KINDS];
        /** What it showed: C (row 0) and A (row 1). */
        final int[][] shown = new int[2][MOST_PARTIES];
        /** The first and the second numbers that it has, by the party that sent them. */
        final int[][] numbers = new int[2][MOST_PARTIES + 1];
        /** The first and the second numbers of its answers, by the party that complained. */
        final int[][] answers = new int[2][MOST_PARTIES + 1];
        /** Its share and its blind. */
        final int[] shares = new int[2];
        int crashRound;
        int complaints;
        boolean dealt;
        boolean extracted;

        static boolean concernsAnother(int kind) {
            return kind == BAD || kind == SLANDERS;
        }

        void clear() {
            forget();
            for (int which = 0; which < 2; which++) {
                Arrays.fill(shown[which], NOTHING);
                Arrays.fill(numbers[which], NOTHING);
                Arrays.fill(answers[which], NOTHING);
                shares[which] = NOTHING;
            }
            complaints = 0;
            dealt = false;
            extracted = false;
        }

        /** What goes with a new room, and also when shares are made anew or handed on. */
        void forget() {
            Arrays.fill(coefficients[0], 0);
            Arrays.fill(coefficients[1], 0);
            Arrays.fill(faults, 0);
            crashRound = NEVER;
        }

        boolean worksIn(int round) {
            return round < crashRound;
        }

        boolean neverCrashes() {
            return crashRound == NEVER;
        }

        boolean has(int kind) {
            return faults[kind] != 0;
        }

        boolean isComplainedOf(int j) {
            return (complaints & bit(j)) != 0;
        }

        boolean hasAnswered(int j) {
            return answers[0][j] != NOTHING;
        }
    }

    /** Who is in the room, its seven rounds, and what is done with the shares afterwards. */
    private static final class Room {
        static final int NO_ROOM = 0;
        static final int IN_ROUNDS = 1;
        static final int DONE = 2;
        static final int FAILED = 3;

        private static final int DEAL = 1;
        private static final int COMPLAIN = 2;
        private static final int ANSWER = 3;
        private static final int JUDGE = 4;
        private static final int EXTRACT = 5;
        private static final int ACCUSE = 6;
        private static final int OPEN = 7;

        private final Group[] groups;
        private final Party[] seats = new Party[MOST_PARTIES];
        private final Board board = new Board();
        private final Points through;
        private final int[] newShares = new int[MOST_PARTIES + 1];
        private Group group;
        private Field numbers;
        private int n;
        private int t;
        private int stage;
        private int round;
        private int qualified;
        private int accused;
        private int opened;
        private int key;

        Room(Group first, Group second) {
            groups = new Group[] {first, second};
            group = first;
            numbers = first.exponents;
            through = new Points(numbers);
            for (int i = 0; i < MOST_PARTIES; i++) {
                seats[i] = new Party();
            }
        }

        static boolean isCommittee(int size, int threshold) {
            return size >= 1 && size <= MOST_PARTIES && threshold >= 1 && threshold <= size;
        }

        boolean hasGroup(int k) {
            return k >= 0 && k < groups.length;
        }

        boolean hasParty(int i) {
            return i >= 1 && i <= n;
        }

        boolean hasCoefficient(int k) {
            return k >= 0 && k < t;
        }

        boolean isEnough(int who) {
            return (who & ~everybody()) == 0 && Integer.bitCount(who) >= t;
        }

        boolean takesCoefficients() {
            return stage != NO_ROOM && (round == 0 || stage != IN_ROUNDS);
        }

        boolean isBeforeRounds() {
            return stage != NO_ROOM && round == 0;
        }

        void start(int newGroup, int size, int threshold) {
            group = groups[newGroup];
            numbers = group.exponents;
            n = size;
            t = threshold;
            stage = IN_ROUNDS;
            round = 0;
            qualified = 0;
            accused = 0;
            opened = 0;
            key = group.neutral;
            board.clear();
            for (int i = 1; i <= MOST_PARTIES; i++) {
                party(i).clear();
            }
        }

        void setCoefficient(int i, int k, int which, int value) {
            party(i).coefficients[which][k] = Math.floorMod(value, numbers.size);
        }

        void setFault(int i, int kind, int about) {
            party(i).faults[kind] = about;
        }

        void setCrash(int i, int from) {
            party(i).crashRound = from;
        }

        int stage() {
            return stage;
        }

        Board shownToAll() {
            return board;
        }

        int commonKey() {
            return key;
        }

        int qualifiedBits() {
            return qualified & everybody();
        }

        int accusedBits() {
            return accused & everybody();
        }

        int openedBits() {
            return opened & everybody();
        }

        int workingBits() {
            int working = 0;
            for (int i = 1; i <= n; i++) {
                boolean works = stage == IN_ROUNDS
                        ? party(i).worksIn(round + 1) : party(i).neverCrashes();
                if (works) {
                    working |= bit(i);
                }
            }
            return working;
        }

        int complaintBits(int i) {
            return party(i).complaints & everybody();
        }

        int numberOf(int i, int j, int which) {
            return party(j).numbers[which][i];
        }

        int elementOf(int i, int k, int which) {
            return party(i).shown[which][k];
        }

        int shareOf(int j, int which) {
            return party(j).shares[which];
        }

        int advance() {
            round++;
            switch (round) {
                case DEAL:
                    dealAll();
                    break;
                case COMPLAIN:
                    complainAll();
                    break;
                case ANSWER:
                    answerAll();
                    break;
                case JUDGE:
                    judgeAll();
                    break;
                case EXTRACT:
                    extractAll();
                    break;
                case ACCUSE:
                    accuseAll();
                    break;
                default:
                    openAll();
                    break;
            }
            return round;
        }

        private void dealAll() {
            for (int i = 1; i <= n; i++) {
                if (party(i).worksIn(DEAL) && !party(i).has(Party.SILENT)) {
                    deal(i);
                }
            }
        }

        private void deal(int i) {
            Party dealer = party(i);
            dealer.dealt = true;
            board.write(DEAL, i);
            for (int k = 0; k < t; k++) {
                int element = group.commit(dealer.coefficients[0][k], dealer.coefficients[1][k]);
                dealer.shown[0][k] = element;
                board.writePair(element);
            }
            for (int j = 1; j <= n; j++) {
                int first = dealtNumber(i, j, 0);
                boolean bad = dealer.faults[Party.BAD] == j;
                party(j).numbers[0][i] = bad ? numbers.plus(first, 1) : first;
                party(j).numbers[1][i] = dealtNumber(i, j, 1);
            }
        }

        private void complainAll() {
            for (int j = 1; j <= n; j++) {
                if (party(j).worksIn(COMPLAIN)) {
                    complain(j);
                }
            }
        }

        private void complain(int j) {
            Party receiver = party(j);
            for (int i = 1; i <= n; i++) {
                if (!party(i).dealt) {
                    continue;
                }
                boolean slanders = receiver.faults[Party.SLANDERS] == i;
                if (slanders || !fits(i, j, receiver.numbers[0][i], receiver.numbers[1][i])) {
                    party(i).complaints |= bit(j);
                    board.write(COMPLAIN, j);
                    board.writeByte(i);
                }
            }
        }

        private void answerAll() {
            for (int i = 1; i <= n; i++) {
                if (party(i).worksIn(ANSWER) && !party(i).has(Party.DUMB)) {
                    answer(i);
                }
            }
        }

        private void answer(int i) {
            Party dealer = party(i);
            for (int j = 1; j <= n; j++) {
                if (!dealer.isComplainedOf(j)) {
                    continue;
                }
                int first = dealtNumber(i, j, 0);
                int second = dealtNumber(i, j, 1);
                dealer.answers[0][j] = dealer.has(Party.LIES) ? numbers.plus(first, 1) : first;
                dealer.answers[1][j] = second;
                board.write(ANSWER, i);
                writeNumbers(j, dealer.answers[0][j], second);
            }
        }

        private void judgeAll() {
            for (int i = 1; i <= n; i++) {
                if (!isOut(i)) {
                    qualified |= bit(i);
                }
                takeAnswers(i);
            }
            if (qualified == 0) {
                stage = FAILED;
                return;
            }
            for (int j = 1; j <= n; j++) {
                sumUp(j, 0);
                sumUp(j, 1);
            }
        }

        private boolean isOut(int i) {
            Party dealer = party(i);
            if (!dealer.dealt || Integer.bitCount(dealer.complaints) >= t) {
                return true;
            }
            for (int j = 1; j <= n; j++) {
                if (dealer.isComplainedOf(j) && (!dealer.hasAnswered(j)
                        || !fits(i, j, dealer.answers[0][j], dealer.answers[1][j]))) {
                    return true;
                }
            }
            return false;
        }

        private void takeAnswers(int i) {
            Party dealer = party(i);
            for (int j = 1; j <= n; j++) {
                if (dealer.hasAnswered(j)) {
                    party(j).numbers[0][i] = dealer.answers[0][j];
                    party(j).numbers[1][i] = dealer.answers[1][j];
                }
            }
        }

        private void sumUp(int j, int which) {
            int sum = 0;
            for (int i = 1; i <= n; i++) {
                if (isQualified(i)) {
                    sum = numbers.plus(sum, party(j).numbers[which][i]);
                }
            }
            party(j).shares[which] = sum;
        }

        private void extractAll() {
            for (int i = 1; i <= n; i++) {
                if (isQualified(i) && party(i).worksIn(EXTRACT)) {
                    extract(i);
                }
            }
        }

        private void extract(int i) {
            Party dealer = party(i);
            dealer.extracted = true;
            board.write(EXTRACT, i);
            for (int k = 0; k < t; k++) {
                int exponent = dealer.coefficients[0][k];
                if (k == 0 && dealer.has(Party.FORGES)) {
                    exponent = numbers.plus(exponent, 1);
                }
                dealer.shown[1][k] = group.power(group.g, exponent);
                board.writePair(dealer.shown[1][k]);
            }
        }

        private void accuseAll() {
            for (int j = 1; j <= n; j++) {
                if (party(j).worksIn(ACCUSE)) {
                    accuse(j);
                }
            }
        }

        private void accuse(int j) {
            for (int i = 1; i <= n; i++) {
                if (!isQualified(i) || !party(i).extracted) {
                    continue;
                }
                int first = party(j).numbers[0][i];
                int second = party(j).numbers[1][i];
                int due = group.polynomialInExponents(party(i).shown[1], t, j);
                if (group.power(group.g, first) != due && fits(i, j, first, second)) {
                    accused |= bit(i);
                    board.write(ACCUSE, j);
                    writeNumbers(i, first, second);
                }
            }
        }

        private void openAll() {
            boolean failed = false;
            for (int i = 1; i <= n; i++) {
                if (!isQualified(i)) {
                    continue;
                }
                if (party(i).extracted && (accused & bit(i)) == 0) {
                    key = group.product(key, party(i).shown[1][0]);
                    continue;
                }
                collectNumbers(i);
                if (through.size() < t) {
                    failed = true;
                } else {
                    opened |= bit(i);
                    key = group.product(key, group.power(group.g, through.valueAt(0)));
                }
            }
            stage = failed ? FAILED : DONE;
        }

        /** All that work show their numbers of party i; the first t that fit are collected. */
        private void collectNumbers(int i) {
            through.clear(numbers);
            for (int j = 1; j <= n; j++) {
                Party witness = party(j);
                if (!witness.worksIn(OPEN)) {
                    continue;
                }
                int first = witness.numbers[0][i];
                if (witness.has(Party.WRONG)) {
                    first = numbers.plus(first, 1);
                }
                int second = witness.numbers[1][i];
                board.write(OPEN, j);
                writeNumbers(i, first, second);
                if (through.size() < t && fits(i, j, first, second)) {
                    through.add(j, first);
                }
            }
        }

        int secretOf(int who) {
            collectShares(who);
            return through.valueAt(0);
        }

        void renewShares() {
            for (int j = 1; j <= n; j++) {
                int sum = party(j).shares[0];
                for (int i = 1; i <= n; i++) {
                    if (party(i).neverCrashes()) {
                        sum = numbers.plus(sum, dealtFrom(0, i, t, j));
                    }
                }
                newShares[j] = sum;
            }
            takeNewShares();
        }

        void handTo(int who, int threshold, int size) {
            collectShares(who);
            Arrays.fill(newShares, 0);
            int position = 0;
            for (int i = 1; i <= n; i++) {
                if ((who & bit(i)) != 0) {
                    int weight = through.weight(position, 0);
                    position++;
                    addDealt(i, weight, threshold, size);
                }
            }
            n = size;
            t = threshold;
            takeNewShares();
        }

        private void addDealt(int i, int weight, int threshold, int size) {
            for (int j = 1; j <= size; j++) {
                int dealt = dealtFrom(party(i).shares[0], i, threshold, j);
                newShares[j] = numbers.plus(newShares[j], numbers.times(weight, dealt));
            }
        }

        /** The value at j of the polynomial that has number, c(i, 1), .., c(i, count - 1). */
        private int dealtFrom(int number, int i, int count, int j) {
            return numbers.polynomialAt(number, party(i).coefficients[0], count, j);
        }

        private void takeNewShares() {
            for (int i = 1; i <= MOST_PARTIES; i++) {
                party(i).forget();
                party(i).shares[0] = newShares[i];
                party(i).shares[1] = 0;
            }
        }

        private void collectShares(int who) {
            through.clear(numbers);
            for (int i = 1; i <= n; i++) {
                if ((who & bit(i)) != 0) {
                    through.add(i, party(i).shares[0]);
                }
            }
        }

        /** f(i, j) (which = 0) or e(i, j) (1). */
        private int dealtNumber(int i, int j, int which) {
            int[] coefficients = party(i).coefficients[which];
            return numbers.polynomialAt(coefficients[0], coefficients, t, j);
        }

        /** Whether two numbers fit for what party i showed and party j. */
        private boolean fits(int i, int j, int first, int second) {
            int due = group.polynomialInExponents(party(i).shown[0], t, j);
            return group.commit(first, second) == due;
        }

        private void writeNumbers(int other, int first, int second) {
            board.writeByte(other);
            board.writePair(first);
            board.writePair(second);
        }

        private boolean isQualified(int i) {
            return (qualified & bit(i)) != 0;
        }

        private int everybody() {
            return (1 << n) - 1;
        }

        private Party party(int i) {
            return seats[i - 1];
        }
    }

    /** All that was shown to all, as bytes. */
    private static final class Board {
        /**
         * Seven deals and seven extracts of 16 bytes, 14 complaints of 3 and as many answers of 7
         * (each party is bad to one and slanders one), 49 accusations and 49 openings of 7.
         */
        private static final int MOST = 14 * 16 + 14 * 3 + 14 * 7 + 98 * 7;

        private final byte[] bytes = new byte[MOST];
        private final Sha256 sha = new Sha256();
        private int size;

        void clear() {
            size = 0;
        }

        int size() {
            return size;
        }

        int byteAt(int i) {
            return bytes[i] & 255;
        }

        void write(int kind, int party) {
            writeByte(kind);
            writeByte(party);
        }

        void writePair(int value) {
            writeByte(value >> 8);
            writeByte(value);
        }

        void writeByte(int value) {
            if (size < MOST) {
                bytes[size] = (byte) value;
                size++;
            }
        }

        int digestWord(int i) {
            return sha.wordOf(bytes, size, i);
        }
    }

    /** SHA-256 of FIPS 180-4, in rows that are made once. */
    private static final class Sha256 {
        static final int WORDS = 8;

        private static final int BLOCK = 64;
        private static final int[] START = {
            0x6a09e667, 0xbb67ae85, 0x3c6ef372, 0xa54ff53a,
            0x510e527f, 0x9b05688c, 0x1f83d9ab, 0x5be0cd19
        };
        private static final int[] ROUND_CONSTANTS = {
            0x428a2f98, 0x71374491, 0xb5c0fbcf, 0xe9b5dba5, 0x3956c25b, 0x59f111f1,
            0x923f82a4, 0xab1c5ed5, 0xd807aa98, 0x12835b01, 0x243185be, 0x550c7dc3,
            0x72be5d74, 0x80deb1fe, 0x9bdc06a7, 0xc19bf174, 0xe49b69c1, 0xefbe4786,
            0x0fc19dc6, 0x240ca1cc, 0x2de92c6f, 0x4a7484aa, 0x5cb0a9dc, 0x76f988da,
            0x983e5152, 0xa831c66d, 0xb00327c8, 0xbf597fc7, 0xc6e00bf3, 0xd5a79147,
            0x06ca6351, 0x14292967, 0x27b70a85, 0x2e1b2138, 0x4d2c6dfc, 0x53380d13,
            0x650a7354, 0x766a0abb, 0x81c2c92e, 0x92722c85, 0xa2bfe8a1, 0xa81a664b,
            0xc24b8b70, 0xc76c51a3, 0xd192e819, 0xd6990624, 0xf40e3585, 0x106aa070,
            0x19a4c116, 0x1e376c08, 0x2748774c, 0x34b0bcb5, 0x391c0cb3, 0x4ed8aa4a,
            0x5b9cca4f, 0x682e6ff3, 0x748f82ee, 0x78a5636f, 0x84c87814, 0x8cc70208,
            0x90befffa, 0xa4506ceb, 0xbef9a3f7, 0xc67178f2
        };

        private final int[] schedule = new int[BLOCK];
        private final int[] hash = new int[WORDS];
        private final int[] work = new int[WORDS];

        int wordOf(byte[] message, int length, int word) {
            System.arraycopy(START, 0, hash, 0, WORDS);
            // Padding needs one byte for its mark and eight for the length.
            int blocks = (length + 9 + BLOCK - 1) / BLOCK;
            for (int block = 0; block < blocks; block++) {
                fillSchedule(message, length, block, blocks);
                mix();
            }
            return hash[word];
        }

        private void fillSchedule(byte[] message, int length, int block, int blocks) {
            for (int k = 0; k < 16; k++) {
                int at = block * BLOCK + 4 * k;
                schedule[k] = padded(message, length, at) << 24
                        | padded(message, length, at + 1) << 16
                        | padded(message, length, at + 2) << 8
                        | padded(message, length, at + 3);
            }
            if (block == blocks - 1) {
                // The board is far too short for its length to reach the upper word.
                schedule[15] = length * 8;
            }
            for (int k = 16; k < BLOCK; k++) {
                int early = schedule[k - 15];
                int late = schedule[k - 2];
                int sigma0 = turn(early, 7) ^ turn(early, 18) ^ early >>> 3;
                int sigma1 = turn(late, 17) ^ turn(late, 19) ^ late >>> 10;
                schedule[k] = schedule[k - 16] + sigma0 + schedule[k - 7] + sigma1;
            }
        }

        private void mix() {
            System.arraycopy(hash, 0, work, 0, WORDS);
            for (int k = 0; k < BLOCK; k++) {
                int a = work[0];
                int e = work[4];
                int choice = e & work[5] ^ ~e & work[6];
                int majority = a & work[1] ^ a & work[2] ^ work[1] & work[2];
                int sum0 = turn(a, 2) ^ turn(a, 13) ^ turn(a, 22);
                int sum1 = turn(e, 6) ^ turn(e, 11) ^ turn(e, 25);
                int step = work[7] + sum1 + choice + ROUND_CONSTANTS[k] + schedule[k];
                for (int place = WORDS - 1; place > 0; place--) {
                    work[place] = work[place - 1];
                }
                work[4] += step;
                work[0] = step + sum0 + majority;
            }
            for (int k = 0; k < WORDS; k++) {
                hash[k] += work[k];
            }
        }

        private static int padded(byte[] message, int length, int at) {
            if (at < length && at < message.length) {
                return message[at] & 255;
            }
            return at == length ? 128 : 0;
        }

        private static int turn(int word, int by) {
            return word >>> by | word << 32 - by;
        }
    }
}
