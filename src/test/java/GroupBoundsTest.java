/** Boundary cases of the two groups: wrap-around of exponents, the neutral element, each element. */
public final class GroupBoundsTest {
    private static final int[] ORDERS = {1019, 31};
    private static final int[] NEUTRAL = {1, 4000};
    private static final int[] H = {9, 64 * 21 + 18};

    private final Check check = new Check();

    public static void main(String[] args) {
        GroupBoundsTest test = new GroupBoundsTest();
        test.eachPowerOfG();
        test.eachPowerOfH();
        test.eachProductOnTheCurve();
        test.orderOfG();
        test.squaresWrapAround();
        test.curveHasThreeOnALine();
        test.neutralIsTold();
        test.exponentsAreModuloQ();
        test.keyWrapsAround();
        test.check.finish("GroupBoundsTest");
    }

    /** A room of one party with the coefficients a and b, dealt. */
    private static SharingRoom alone(int group, int a, int b) {
        SharingRoom x = new SharingRoom();
        x.begin(group, 1, 1);
        x.give(1, 0, 0, a);
        x.give(1, 0, 1, b);
        x.next();
        return x;
    }

    private static int keyOf(int group, int... secrets) {
        SharingRoom x = new SharingRoom();
        x.begin(group, secrets.length, 1);
        for (int k = 0; k < secrets.length; k++) {
            x.give(k + 1, 0, 0, secrets[k]);
        }
        return Rooms.done(x).key();
    }

    private static int exponentOf(int group, int element) {
        int exponent = 0;
        while (Slow.powerOfG(group, exponent) != element) {
            exponent++;
        }
        return exponent;
    }

    /** GROUPS: "each of a prime order q", "u ^ k is u taken k times": each power of g. */
    private void eachPowerOfG() {
        for (int group = 0; group < 2; group++) {
            for (int a = 0; a < ORDERS[group]; a++) {
                SharingRoom x = alone(group, a, 0);
                int due = Slow.powerOfG(group, a);
                check.equal("C of " + a, x.commitment(1, 0, 0), due);
                Rooms.rounds(x, 6);
                check.equal("A of " + a, x.commitment(1, 0, 1), due);
                check.equal("the key of " + a, x.key(), due);
            }
        }
    }

    /** GROUPS: h = 9, h = (21, 18): each power of h. */
    private void eachPowerOfH() {
        for (int group = 0; group < 2; group++) {
            int h = exponentOf(group, H[group]);
            for (int b = 0; b < ORDERS[group]; b++) {
                int due = Slow.powerOfG(group, b * h % ORDERS[group]);
                check.equal("C of 0 and " + b, alone(group, 0, b).commitment(1, 0, 0), due);
            }
        }
    }

    /** GROUPS: "the usual sum (three on a line give the neutral one)": each sum of two points. */
    private void eachProductOnTheCurve() {
        int h = exponentOf(1, H[1]);
        for (int a = 0; a < 31; a++) {
            for (int b = 0; b < 31; b++) {
                int due = Slow.powerOfG(1, (a + b * h) % 31);
                check.equal(a + " g and " + b + " h", alone(1, a, b).commitment(1, 0, 0), due);
            }
        }
    }

    /** GROUPS: "each of a prime order q": 0 and q are the neutral one, no number between is. */
    private void orderOfG() {
        for (int group = 0; group < 2; group++) {
            int q = ORDERS[group];
            check.equal("0 times", alone(group, 0, 0).commitment(1, 0, 0), NEUTRAL[group]);
            check.equal("q times", alone(group, q, 0).commitment(1, 0, 0), NEUTRAL[group]);
            check.equal("q times h", alone(group, 0, q).commitment(1, 0, 0), NEUTRAL[group]);
            for (int a = 1; a < q; a++) {
                boolean neutral = alone(group, a, 0).commitment(1, 0, 0) == NEUTRAL[group];
                check.same(a + " times", String.valueOf(neutral), "false");
            }
        }
    }

    /** GROUPS: "the squares modulo 2039 under multiplication, q = 1019, g = 4, h = 9". */
    private void squaresWrapAround() {
        check.equal("4 ^ 5", alone(0, 5, 0).commitment(1, 0, 0), 1024);
        check.equal("4 ^ 6 is 4096 - 2 * 2039", alone(0, 6, 0).commitment(1, 0, 0), 18);
        check.equal("9 ^ 3", alone(0, 0, 3).commitment(1, 0, 0), 729);
        check.equal("9 ^ 4 is 6561 - 3 * 2039", alone(0, 0, 4).commitment(1, 0, 0), 444);
        check.equal("4 ^ -1", alone(0, -1, 0).commitment(1, 0, 0), 510);
        check.equal("9 ^ -1", alone(0, 0, -1).commitment(1, 0, 0), 1586);
    }

    /** GROUPS: "the usual sum (three on a line give the neutral one)". */
    private void curveHasThreeOnALine() {
        check.equal("g", alone(1, 1, 0).commitment(1, 0, 0), 64 * 2 + 12);
        check.equal("h", alone(1, 0, 1).commitment(1, 0, 0), 64 * 21 + 18);
        check.equal("twice g: the tangent", alone(1, 2, 0).commitment(1, 0, 0), 64 * 7 + 7);
        check.equal("the mirrored g", alone(1, 30, 0).commitment(1, 0, 0), 64 * 2 + 43 - 12);
        check.equal("the mirrored h", alone(1, 0, 30).commitment(1, 0, 0), 64 * 21 + 43 - 18);
        for (int a = 0; a < 31; a++) {
            for (int b = 0; b < 31; b++) {
                check.equal("three: " + a + ", " + b, keyOf(1, a, b, 62 - a - b), 4000);
            }
        }
    }

    /** GROUPS: "an element is told as 64 x + y, the neutral one as 4000". */
    private void neutralIsTold() {
        check.equal("no coefficients", keyOf(1, 0), 4000);
        check.equal("one and its mirrored one", keyOf(1, 7, 24), 4000);
        check.equal("the neutral one first", keyOf(1, 0, 1), 140);
        check.equal("the neutral one last", keyOf(1, 1, 0), 140);
        check.equal("the neutral one twice", keyOf(1, 0, 0), 4000);
        check.equal("the neutral one of group 0", keyOf(0, 0), 1);
        check.equal("the neutral one of group 0, of two", keyOf(0, 1, 1018), 1);
        SharingRoom x = new SharingRoom();
        x.begin(1, 2, 2);
        x.give(1, 1, 0, 1);
        x.next();
        check.equal("a coefficient of 0 is shown as the neutral one", x.commitment(1, 0, 0), 4000);
        check.equal("beside another one", x.commitment(1, 1, 0), 140);
    }

    /** GROUPS: "each of a prime order q": numbers that are the same modulo q give the same. */
    private void exponentsAreModuloQ() {
        int[] values = {0, 1, -1, 12345, Integer.MAX_VALUE, Integer.MIN_VALUE};
        for (int group = 0; group < 2; group++) {
            for (int value : values) {
                int same = Math.floorMod(value, ORDERS[group]);
                check.equal("a of " + value, alone(group, value, 0).commitment(1, 0, 0),
                        alone(group, same, 0).commitment(1, 0, 0));
                check.equal("b of " + value, alone(group, 0, value).commitment(1, 0, 0),
                        alone(group, 0, same).commitment(1, 0, 0));
            }
        }
    }

    /** ROUNDS: "The KEY is the product": of exponents whose sum is q or more. */
    private void keyWrapsAround() {
        for (int group = 0; group < 2; group++) {
            int q = ORDERS[group];
            check.equal("q - 1 and 2", keyOf(group, q - 1, 2), Slow.powerOfG(group, 1));
            check.equal("seven times q - 1", keyOf(group, -1, -1, -1, -1, -1, -1, -1), Slow.powerOfG(group, q - 7));
        }
    }
}
