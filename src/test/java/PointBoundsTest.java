import java.util.function.Consumer;

/** Boundary cases of fields and points, promises 1 to 5: one test for each sentence that names one. */
public final class PointBoundsTest {
    private static final int[] SIZES = {256, 1019, 31};

    private final Check check = new Check();
    private final Bounds bounds = new Bounds(check);

    public static void main(String[] args) {
        PointBoundsTest test = new PointBoundsTest();
        test.newObject();
        test.fieldForgetsPoints();
        test.fieldIsOfTheNewSize();
        test.fieldRefused();
        test.pointCountsToTwelve();
        test.pointAtLeastOne();
        test.pointInField();
        test.pointTwice();
        test.pointThirteenth();
        test.pointRefusedForTwoReasons();
        test.combineInField();
        test.combineWithoutPoints();
        test.combineOfOnePoint();
        test.combineOfTwelvePoints();
        test.productOfBytesWrapsAround();
        test.numbersWrapAround();
        test.leastDegree();
        test.degreeOfNone();
        test.degreeOfZero();
        test.degreeOfEachLength();
        test.degreeLeavesInnerZeros();
        test.pointsAndRoomsApart();
        test.check.finish("PointBoundsTest");
    }

    private static Story inField(int f) {
        return Story.of("field " + f).then(x -> x.field(f));
    }

    private static Story withPoints(int f, int count) {
        return inField(f).then("field " + f + ", " + count + " points", x -> {
            for (int k = 1; k <= count; k++) {
                x.point(2 * k, k * k % 29);
            }
        });
    }

    private void eachField(Consumer<Integer> test) {
        for (int f = 0; f < SIZES.length; f++) {
            test.accept(f);
        }
    }

    /** Promise 1: "No points (of field 0), no room." */
    private void newObject() {
        SharingRoom x = new SharingRoom();
        check.equal("no room", x.state(), 0);
        check.equal("no points", x.degree(), 0);
        check.same("no points to combine", Story.answerOf(() -> x.combine(255)), Story.STATE);
        check.same("256 is not of field 0", Story.answerOf(() -> x.point(256, 0)), Story.ARGUMENT);
        check.equal("255 is of field 0", x.point(255, 255), 1);
        bounds.sameFuture("a new object is as one of field 0", Story.of("new"), inField(0));
        check.equal("another new object has its own points", new SharingRoom().degree(), 0);
        x.begin(0, 1, 1);
        check.equal("another new object has its own room", new SharingRoom().state(), 0);
    }

    /** Promise 2: "No points, of a field from now on." */
    private void fieldForgetsPoints() {
        eachField(from -> eachField(to -> {
            SharingRoom x = withPoints(from, 12).told();
            x.field(to);
            String what = "from " + from + " to " + to;
            check.equal(what + ": no points", x.degree(), 0);
            check.same(what + ": no points", Story.answerOf(() -> x.combine(2)), Story.STATE);
            for (int k = 1; k <= 12; k++) {
                check.equal(what + ": room for 12 again", x.point(2 * k, 1), k);
            }
            check.equal(what + ": the old ones do not count", x.combine(0), 1);
        }));
    }

    /** Promise 2: "No points, of a field from now on." */
    private void fieldIsOfTheNewSize() {
        eachField(from -> eachField(to -> {
            SharingRoom x = withPoints(from, 1).told();
            x.field(to);
            int size = SIZES[to];
            String what = "from " + from + " to " + to;
            check.same(what, Story.answerOf(() -> x.combine(size)), Story.ARGUMENT);
            check.same(what, Story.answerOf(() -> x.point(size, 0)), Story.ARGUMENT);
            check.equal(what, x.point(size - 1, size - 1), 1);
            check.equal(what, x.combine(size - 1), size - 1);
        }));
    }

    /** Promise 2: "IllegalArgumentException if there is no such field." */
    private void fieldRefused() {
        eachField(f -> Bounds.eachOutside(0, 2, wrong ->
                bounds.refused("field " + wrong, withPoints(f, 3), Story.ARGUMENT, x -> x.field(wrong))));
        Bounds.eachOutside(0, 2, wrong ->
                bounds.refused("field " + wrong, Story.of("new"), Story.ARGUMENT, x -> x.field(wrong)));
        eachField(f -> bounds.allowed("field " + f, Story.of("new"), x -> x.field(f)));
    }

    /** Promise 3: "A point: how many there are." */
    private void pointCountsToTwelve() {
        eachField(f -> {
            SharingRoom x = inField(f).told();
            for (int k = 1; k <= 12; k++) {
                check.equal("field " + f, x.point(SIZES[f] - k, k), k);
            }
        });
    }

    /** Promise 3: "IllegalArgumentException if x is not 1 or more". */
    private void pointAtLeastOne() {
        int[] wrong = {0, -1, Integer.MIN_VALUE};
        eachField(f -> {
            for (int at : wrong) {
                bounds.refused("x = " + at, withPoints(f, 2), Story.ARGUMENT, x -> x.point(at, 1));
                bounds.refused("x = " + at, inField(f), Story.ARGUMENT, x -> x.point(at, 1));
            }
            check.equal("x = 1", inField(f).told().point(1, 1), 1);
        });
    }

    /** Promise 3: "or x or y is no element of the field". */
    private void pointInField() {
        eachField(f -> {
            int greatest = SIZES[f] - 1;
            Story story = withPoints(f, 2);
            Bounds.eachOutside(1, greatest, wrong ->
                    bounds.refused("x = " + wrong, story, Story.ARGUMENT, x -> x.point(wrong, 1)));
            Bounds.eachOutside(0, greatest, wrong ->
                    bounds.refused("y = " + wrong, story, Story.ARGUMENT, x -> x.point(1, wrong)));
            check.equal("both the greatest", story.told().point(greatest, greatest), 3);
            check.equal("y = 0", story.told().point(greatest, 0), 3);
            check.equal("x = 1, y the greatest", story.told().point(1, greatest), 3);
        });
    }

    /** Promise 3: "IllegalStateException if there is one with this x". */
    private void pointTwice() {
        eachField(f -> {
            Story story = withPoints(f, 11);
            for (int k = 1; k <= 11; k++) {
                int at = 2 * k;
                int same = k * k % 29;
                bounds.refused("x = " + at + " again", story, Story.STATE, x -> x.point(at, 0));
                bounds.refused("x = " + at + " again with its y", story, Story.STATE, x -> x.point(at, same));
            }
            check.equal("another x", story.told().point(3, 1), 12);
        });
    }

    /** Promise 3: "or there are 12." */
    private void pointThirteenth() {
        eachField(f -> {
            check.equal("the 12th", withPoints(f, 11).told().point(1, 1), 12);
            bounds.refused("a 13th", withPoints(f, 12), Story.STATE, x -> x.point(1, 1));
            bounds.refused("a 13th at the end", withPoints(f, 12), Story.STATE, x -> x.point(SIZES[f] - 1, 0));
            bounds.refused("a 13th that is there", withPoints(f, 12), Story.STATE, x -> x.point(2, 1));
        });
    }

    /** Promise 3: what is no point is refused as such, also where a point would be refused. */
    private void pointRefusedForTwoReasons() {
        eachField(f -> {
            Story full = withPoints(f, 12);
            bounds.refused("x = 0 of 12", full, Story.ARGUMENT, x -> x.point(0, 1));
            bounds.refused("x too great of 12", full, Story.ARGUMENT, x -> x.point(SIZES[f], 1));
            bounds.refused("y too great of one that is there", full, Story.ARGUMENT, x -> x.point(2, SIZES[f]));
            bounds.refused("y too small of one that is there", full, Story.ARGUMENT, x -> x.point(2, -1));
        });
    }

    /** Promise 4: "IllegalArgumentException if x is no element of the field". */
    private void combineInField() {
        eachField(f -> {
            Bounds.eachOutside(0, SIZES[f] - 1, wrong -> {
                bounds.refused("combine " + wrong, withPoints(f, 3), Story.ARGUMENT, x -> x.combine(wrong));
                bounds.refused("combine " + wrong, inField(f), Story.ARGUMENT, x -> x.combine(wrong));
            });
            SharingRoom x = withPoints(f, 1).told();
            check.equal("at 0", x.combine(0), 1);
            check.equal("at the greatest", x.combine(SIZES[f] - 1), 1);
        });
    }

    /** Promise 4: "IllegalStateException if there are no points." */
    private void combineWithoutPoints() {
        eachField(f -> {
            int[] elements = {0, 1, SIZES[f] - 1};
            for (int at : elements) {
                bounds.refused("combine " + at, inField(f), Story.STATE, x -> x.combine(at));
            }
            Story refused = inField(f).thenTried(x -> x.point(0, 0));
            bounds.refused("combine after a refused point", refused, Story.STATE, x -> x.combine(0));
        });
    }

    /** Promise 4: "The value of the points' polynomial at x", of the fewest points. */
    private void combineOfOnePoint() {
        eachField(f -> {
            int greatest = SIZES[f] - 1;
            int[] values = {0, 1, greatest};
            for (int y : values) {
                SharingRoom x = inField(f).told();
                x.point(greatest, y);
                check.equal("a constant at 0", x.combine(0), y);
                check.equal("a constant at 1", x.combine(1), y);
                check.equal("a constant at the greatest", x.combine(greatest), y);
            }
        });
    }

    /** Promise 4: "The value of the points' polynomial at x", of the most points, at each element. */
    private void combineOfTwelvePoints() {
        int[] polynomial = {30, 0, 1, 29, 7, 0, 0, 30, 2, 3, 5, 11};
        eachField(f -> {
            for (int at = 0; at < SIZES[f]; at += 400) {
                SharingRoom x = inField(f).told();
                for (int k = 0; k < 12; k++) {
                    int px = SIZES[f] - 1 - 2 * k;
                    x.point(px, Slow.evaluate(f, polynomial, px));
                }
                for (int v = at; v < Math.min(at + 400, SIZES[f]); v++) {
                    check.equal("field " + f + " at " + v, x.combine(v), Slow.evaluate(f, polynomial, v));
                }
            }
        });
    }

    /** FIELDS: "the product that of polynomials modulo x^8 + x^4 + x^3 + x + 1 (bit k is x^k)". */
    private void productOfBytesWrapsAround() {
        // Of y = factor * x, told by its value at 1 and at another x.
        int[][] products = {
            {0x80, 2, 0x1b}, {0xff, 0xff, 0x13}, {0x53, 0xca, 1}, {1, 0xff, 0xff}, {0x57, 0x83, 0xc1},
            {0x80, 0x80, 0x9a}, {2, 0x7f, 0xfe}, {0, 0xff, 0}
        };
        for (int[] p : products) {
            SharingRoom x = new SharingRoom();
            x.point(1, p[0]);
            x.point(p[1], p[2]);
            check.equal(p[0] + " * " + p[1] + ": at 0", x.combine(0), 0);
            SharingRoom y = new SharingRoom();
            y.point(1, p[0]);
            y.point(3, Slow.times(0, 3, p[0]));
            check.equal(p[0] + " * " + p[1], y.combine(p[1]), p[2]);
        }
        SharingRoom sum = new SharingRoom();
        sum.point(255, 0);
        sum.point(254, 1);
        check.equal("255 + 1 is 254: x + 255 at 0", sum.combine(0), 255);
    }

    /** FIELDS: "1: numbers modulo 1019. 2: numbers modulo 31." */
    private void numbersWrapAround() {
        for (int f = 1; f <= 2; f++) {
            int greatest = SIZES[f] - 1;
            SharingRoom x = inField(f).told();
            x.point(1, greatest);
            x.point(2, 0);
            check.equal("greatest + 1 is 0: x - 2 at 3", x.combine(3), 1);
            check.equal("0 - 2: x - 2 at 0", x.combine(0), greatest - 1);
            check.equal("x - 2 at the greatest", x.combine(greatest), greatest - 2);
            x.field(f);
            x.point(greatest, 1);
            x.point(1, 1);
            x.point(2, 4);
            check.equal("the square of the greatest is 1: x * x at 0", x.combine(0), 0);
            check.equal("x * x at greatest - 1", x.combine(greatest - 1), 4);
        }
    }

    /** POINTS: "they stand for the polynomial of least degree through them." */
    private void leastDegree() {
        eachField(f -> {
            SharingRoom x = inField(f).told();
            for (int k = 1; k <= 12; k++) {
                x.point(2 * k, Slow.plus(f, 2 * k, 7));
                check.equal("points of a line", x.degree(), k == 1 ? 1 : 2);
            }
            check.equal("the line at 0", x.combine(0), 7);
            check.equal("the line at the greatest", x.combine(SIZES[f] - 1), Slow.plus(f, SIZES[f] - 1, 7));
        });
    }

    /** Promise 5: "(0: it is 0 everywhere, or there are none)", of none. */
    private void degreeOfNone() {
        check.equal("new", new SharingRoom().degree(), 0);
        eachField(f -> {
            check.equal("field " + f, inField(f).told().degree(), 0);
            SharingRoom x = inField(f).thenTried(y -> y.point(0, 1)).told();
            check.equal("a refused point", x.degree(), 0);
        });
    }

    /** Promise 5: "(0: it is 0 everywhere, or there are none)", of 0 everywhere. */
    private void degreeOfZero() {
        eachField(f -> {
            SharingRoom x = inField(f).told();
            for (int k = 1; k <= 12; k++) {
                x.point(SIZES[f] - k, 0);
                check.equal(k + " points at 0", x.degree(), 0);
                check.equal(k + " points at 0", x.combine(0), 0);
            }
        });
    }

    /** Promise 5: "How many coefficients the points' polynomial has", from 1 to 12. */
    private void degreeOfEachLength() {
        eachField(f -> {
            for (int length = 1; length <= 12; length++) {
                int[] polynomial = new int[length];
                for (int k = 0; k < length; k++) {
                    polynomial[k] = SIZES[f] - 1 - k;
                }
                SharingRoom x = inField(f).told();
                for (int k = 1; k <= 12; k++) {
                    x.point(2 * k, Slow.evaluate(f, polynomial, 2 * k));
                }
                check.equal(length + " coefficients of 12 points", x.degree(), length);
            }
        });
    }

    /** Promise 5: "without those that are 0 behind the last other one". */
    private void degreeLeavesInnerZeros() {
        eachField(f -> {
            for (int length = 1; length <= 12; length++) {
                int[] power = new int[length];
                power[length - 1] = SIZES[f] - 1;
                SharingRoom x = inField(f).told();
                for (int k = 12; k >= 1; k--) {
                    x.point(2 * k, Slow.evaluate(f, power, 2 * k));
                }
                check.equal("one power alone, with zeros before it", x.degree(), length);
            }
        });
    }

    /** POINTS "are collected in one field", whatever becomes of the room. */
    private void pointsAndRoomsApart() {
        for (State state : State.all(1, 3, 2)) {
            SharingRoom x = state.story().told();
            check.equal(state + ": two points", x.degree(), 2);
            check.equal(state + ": a third one", x.point(30, 0), 3);
            check.equal(state + ": one of them", x.combine(3), 4);
        }
        for (State state : State.all(0, 3, 2)) {
            Story moved = state.story().then(x -> x.field(0)).then(State::somePoints);
            bounds.sameFuture(state + ": a field leaves the room", moved, state.story());
        }
    }
}
