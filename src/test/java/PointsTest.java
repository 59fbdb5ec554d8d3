/** Promises 1 to 5: a new object, and points that stand for a polynomial. */
public final class PointsTest {
    private static final int[] SIZES = {256, 1019, 31};

    private final Check check = new Check();

    public static void main(String[] args) {
        PointsTest test = new PointsTest();
        test.promise1NewObject();
        test.promise2Field();
        test.promise3PointCounts();
        test.promise3PointRefuses();
        test.promise4CombineBytes();
        test.promise4CombineNumbers();
        test.promise4CombineRefuses();
        test.promise5Degree();
        test.check.finish("PointsTest");
    }

    private void promise1NewObject() {
        SharingRoom x = new SharingRoom();
        check.equal("new: degree", x.degree(), 0);
        check.badState("new: combine", () -> x.combine(0));
        check.equal("new: state", x.state(), 0);
        check.equal("new: board", x.board(), 0);
        check.equal("new: key", x.key(), -1);
        check.equal("new: field 0 has 255", x.point(255, 255), 1);
        check.badArgument("new: field 0 has no 256", () -> x.point(256, 0));
    }

    private void promise2Field() {
        SharingRoom x = new SharingRoom();
        x.point(1, 200);
        check.badArgument("field -1", () -> x.field(-1));
        check.badArgument("field 3", () -> x.field(3));
        check.equal("a refused field leaves the points", x.combine(0), 200);
        for (int f = 0; f < SIZES.length; f++) {
            int size = SIZES[f];
            x.field(f);
            check.equal("no points of the new field", x.degree(), 0);
            check.badState("no points of the new field", () -> x.combine(0));
            check.equal("the greatest point", x.point(size - 1, size - 1), 1);
            check.badArgument("x too great", () -> x.point(size, 0));
            check.badArgument("y too great", () -> x.point(1, size));
        }
        x.field(2);
        check.equal("the same field again has no points", x.degree(), 0);
    }

    private void promise3PointCounts() {
        SharingRoom x = new SharingRoom();
        x.field(2);
        for (int k = 1; k <= 12; k++) {
            check.equal("point " + k, x.point(2 * k, k), k);
        }
        check.badState("a 13th", () -> x.point(1, 1));
        check.badState("one that is there, of 12", () -> x.point(2, 1));
        check.badArgument("a 13th that is none", () -> x.point(31, 1));
        check.equal("all 12 count", x.combine(24), 12);
        check.equal("12 on a line", x.combine(0), 0);
    }

    private void promise3PointRefuses() {
        SharingRoom x = new SharingRoom();
        check.badArgument("x = 0", () -> x.point(0, 0));
        check.badArgument("x = -1", () -> x.point(-1, 0));
        check.badArgument("y = -1", () -> x.point(1, -1));
        check.badArgument("x least", () -> x.point(Integer.MIN_VALUE, 0));
        check.badArgument("y greatest", () -> x.point(1, Integer.MAX_VALUE));
        check.equal("y = 0", x.point(7, 0), 1);
        check.badState("the same x", () -> x.point(7, 1));
        check.badArgument("the same x with a bad y", () -> x.point(7, 256));
        check.equal("refused ones are not there", x.point(8, 0), 2);
        check.equal("refused ones do not count", x.combine(7), 0);
    }

    private void promise4CombineBytes() {
        SharingRoom x = new SharingRoom();
        x.point(1, 0x53);
        check.equal("one point is a constant", x.combine(200), 0x53);
        x.point(2, 0xa6);
        check.equal("0x53 x at 0", x.combine(0), 0);
        check.equal("0x53 x at 0xca, its inverse", x.combine(0xca), 1);
        check.equal("0x53 x at 4", x.combine(4), 0xa6 * 2 ^ 0x11b);
        // FIPS 197, 4.2: 0x57 * 0x83 = 0xc1, and 0x57 * 0x13 = 0xfe.
        x.field(0);
        x.point(1, 0x57 ^ 0x11);
        x.point(0x83, 0xc1 ^ 0x11);
        check.equal("0x57 x + 0x11 at 0", x.combine(0), 0x11);
        check.equal("0x57 x + 0x11 at 0x13", x.combine(0x13), 0xfe ^ 0x11);
    }

    private void promise4CombineNumbers() {
        SharingRoom x = new SharingRoom();
        x.field(1);
        // x * x - x + 3
        x.point(1018, 5);
        x.point(2, 5);
        x.point(10, 93);
        check.equal("at 0", x.combine(0), 3);
        check.equal("at 1000", x.combine(1000), (1000 * 999 + 3) % 1019);
        check.equal("at a point", x.combine(10), 93);
        x.field(2);
        // 30 x + 1
        x.point(30, 2);
        x.point(3, 29);
        check.equal("at 0 modulo 31", x.combine(0), 1);
        check.equal("at 30 modulo 31", x.combine(30), 2);
        check.equal("at 1 modulo 31", x.combine(1), 0);
    }

    private void promise4CombineRefuses() {
        SharingRoom x = new SharingRoom();
        for (int f = 0; f < SIZES.length; f++) {
            int size = SIZES[f];
            x.field(f);
            check.badArgument("no points and no element", () -> x.combine(size));
            check.badState("no points", () -> x.combine(size - 1));
            x.point(1, 1);
            check.badArgument("no element", () -> x.combine(size));
            check.badArgument("less than 0", () -> x.combine(-1));
            check.equal("the greatest element", x.combine(size - 1), 1);
        }
    }

    private void promise5Degree() {
        SharingRoom x = new SharingRoom();
        for (int f = 0; f < SIZES.length; f++) {
            x.field(f);
            x.point(3, 0);
            check.equal("one point at 0", x.degree(), 0);
            x.point(5, 0);
            check.equal("0 everywhere", x.degree(), 0);
            x.point(6, 7);
            check.equal("three points", x.degree(), 3);
            x.field(f);
            x.point(9, 4);
            x.point(1, 4);
            x.point(4, 4);
            check.equal("a constant", x.degree(), 1);
        }
        x.field(1);
        for (int k = 1; k <= 12; k++) {
            x.point(k, k * k * k % 1019);
            check.equal(k + " points of x ^ 3", x.degree(), k == 1 ? 1 : Math.min(k, 4));
        }
        x.field(2);
        for (int k = 1; k <= 12; k++) {
            x.point(k, k == 12 ? 5 : 6);
        }
        check.equal("twelve coefficients", x.degree(), 12);
    }
}
