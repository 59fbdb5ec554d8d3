import java.math.BigInteger;
import java.util.Map;

/** Fields and groups by other ways than the program: by trying all, and by the Java library. */
final class Slow {
    private static final int[] ORDERS = {1019, 31};
    private static final int[] SQUARES = squares();
    private static final int[] MULTIPLES = multiples();

    private Slow() {
    }

    static int sizeOf(int f) {
        return f == 0 ? 256 : ORDERS[f - 1];
    }

    static int times(int f, int u, int v) {
        if (f != 0) {
            return u * v % sizeOf(f);
        }
        int product = 0;
        for (int bit = 7; bit >= 0; bit--) {
            product = product << 1 ^ (v >> bit & 1) * u;
            product ^= (product >> 8) * 0x11b;
        }
        return product;
    }

    static int minus(int f, int u, int v) {
        return f == 0 ? u ^ v : Math.floorMod(u - v, sizeOf(f));
    }

    static int plus(int f, int u, int v) {
        return f == 0 ? u ^ v : (u + v) % sizeOf(f);
    }

    static int quotient(int f, int u, int v) {
        for (int w = 0; w < sizeOf(f); w++) {
            if (times(f, w, v) == u) {
                return w;
            }
        }
        throw new AssertionError("division by 0");
    }

    /** Lagrange's polynomials, written out and added up. */
    static int[] interpolate(int f, Map<Integer, Integer> through) {
        int[] sum = new int[through.size()];
        for (int xk : through.keySet()) {
            int[] basis = {1};
            int below = 1;
            for (int xj : through.keySet()) {
                if (xj != xk) {
                    int[] longer = new int[basis.length + 1];
                    for (int k = 0; k < basis.length; k++) {
                        longer[k + 1] = plus(f, longer[k + 1], basis[k]);
                        longer[k] = minus(f, longer[k], times(f, basis[k], xj));
                    }
                    basis = longer;
                    below = times(f, below, minus(f, xk, xj));
                }
            }
            int factor = quotient(f, through.get(xk), below);
            for (int k = 0; k < basis.length; k++) {
                sum[k] = plus(f, sum[k], times(f, basis[k], factor));
            }
        }
        return sum;
    }

    static int evaluate(int f, int[] polynomial, int x) {
        int value = 0;
        int power = 1;
        for (int coefficient : polynomial) {
            value = plus(f, value, times(f, coefficient, power));
            power = times(f, power, x);
        }
        return value;
    }

    /** What is told of the element of a group that is g taken so many times. */
    static int powerOfG(int group, int exponent) {
        return group == 0 ? SQUARES[exponent] : MULTIPLES[exponent];
    }

    private static int[] squares() {
        int[] all = new int[1019];
        BigInteger modulus = BigInteger.valueOf(2039);
        for (int k = 0; k < all.length; k++) {
            all[k] = BigInteger.valueOf(4).modPow(BigInteger.valueOf(k), modulus).intValue();
        }
        return all;
    }

    private static int[] multiples() {
        int[] all = new int[31];
        all[0] = 4000;
        all[1] = 64 * 2 + 12;
        for (int k = 2; k < 31; k++) {
            all[k] = sum(all[k - 1], all[1]);
        }
        return all;
    }

    /** The third point on the line, found by trying all, and mirrored. */
    private static int sum(int u, int v) {
        int x1 = u / 64;
        int y1 = u % 64;
        int x2 = v / 64;
        int y2 = v % 64;
        for (int slope = 0; slope < 43; slope++) {
            boolean chord = x1 != x2 && (slope * (x2 - x1) - (y2 - y1)) % 43 == 0;
            boolean tangent = u == v && (2 * y1 * slope - 3 * x1 * x1) % 43 == 0;
            if (chord || tangent) {
                int x3 = Math.floorMod(slope * slope - x1 - x2, 43);
                int y3 = Math.floorMod(-(y1 + slope * (x3 - x1)), 43);
                return 64 * x3 + y3;
            }
        }
        return 4000;
    }
}
