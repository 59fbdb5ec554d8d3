/** Rooms that several tests use. */
final class Rooms {
    private Rooms() {
    }

    /**
     * Group 0, three parties, threshold 2: f(1, x) = 5 + x, e(1, x) = 2 + 3 x, f(2, x) = 7 + 2 x,
     * e(2, x) = 1, and party 3 has 0 everywhere. In all 12 + 3 x, and 3 + 3 x as the blinds.
     */
    static SharingRoom three() {
        SharingRoom x = new SharingRoom();
        x.begin(0, 3, 2);
        giveAll(x, 1, 0, 5, 1);
        giveAll(x, 1, 1, 2, 3);
        giveAll(x, 2, 0, 7, 2);
        giveAll(x, 2, 1, 1, 0);
        return x;
    }

    /** n parties of group 0 with the threshold t: f(i, x) = 10 i + i x, e(i, x) = i. */
    static SharingRoom many(int n, int t) {
        SharingRoom x = new SharingRoom();
        x.begin(0, n, t);
        for (int i = 1; i <= n; i++) {
            x.give(i, 0, 0, 10 * i);
            x.give(i, 0, 1, i);
            if (t > 1) {
                x.give(i, 1, 0, i);
            }
        }
        return x;
    }

    static void giveAll(SharingRoom x, int i, int which, int... values) {
        for (int k = 0; k < values.length; k++) {
            x.give(i, k, which, values[k]);
        }
    }

    static void rounds(SharingRoom x, int count) {
        for (int k = 0; k < count; k++) {
            x.next();
        }
    }

    static SharingRoom done(SharingRoom x) {
        rounds(x, 7);
        return x;
    }

    static int[] boardOf(SharingRoom x) {
        int[] bytes = new int[x.board()];
        for (int k = 0; k < bytes.length; k++) {
            bytes[k] = x.told(k);
        }
        return bytes;
    }
}
