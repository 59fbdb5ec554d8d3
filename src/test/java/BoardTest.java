import java.nio.ByteBuffer;
import java.security.MessageDigest;
import java.security.NoSuchAlgorithmException;
import java.util.Arrays;
import java.util.HashSet;
import java.util.Set;

/** Promises 17 to 19: the board, its bytes and its digest. */
public final class BoardTest {
    private final Check check = new Check();

    public static void main(String[] args) throws NoSuchAlgorithmException {
        BoardTest test = new BoardTest();
        test.promise17Board();
        test.promise17Greatest();
        test.promise18Told();
        test.promise18TellsAll();
        test.promise18Order();
        test.promise18Curve();
        test.promise19Digest();
        test.promise19DigestOfAllLengths();
        test.check.finish("BoardTest");
    }

    private void promise17Board() {
        SharingRoom x = new SharingRoom();
        check.equal("no room", x.board(), 0);
        SharingRoom y = Rooms.three();
        y.fault(1, 1, 2);
        y.fault(2, 5, 0);
        int[] due = {0, 18, 21, 28, 28, 46, 67, 88};
        for (int round = 0; round <= 7; round++) {
            check.equal("after " + round, y.board(), due[round]);
            if (round < 7) {
                y.next();
            }
        }
        y.refresh();
        check.equal("refreshed", y.board(), 88);
        y.handOn(3, 1, 1);
        check.equal("handed on", y.board(), 88);
        y.begin(0, 1, 1);
        check.equal("a new room", y.board(), 0);
    }

    private void promise17Greatest() {
        SharingRoom x = Rooms.many(7, 7);
        for (int i = 1; i <= 7; i++) {
            x.fault(i, 1, i % 7 + 1);
            x.fault(i, 2, i % 7 + 1);
            x.fault(i, 5, 0);
        }
        Rooms.done(x);
        check.equal("all is forged and laid open", x.parties(2), 127);
        check.equal("greatest", x.board(), 7 * 16 + 14 * 3 + 14 * 7 + 7 * 16 + 49 * 7 + 49 * 7);
        check.equal("its last message", x.told(x.board() - 7), 7);
        check.equal("its key is that of the secret", x.recover(127), 280);
    }

    private void promise18Told() {
        SharingRoom x = new SharingRoom();
        check.outOfBounds("no room", () -> x.told(0));
        check.outOfBounds("no room, -1", () -> x.told(-1));
        x.begin(0, 1, 1);
        check.outOfBounds("empty", () -> x.told(0));
        x.next();
        check.equal("the last byte", x.told(3), 1);
        check.outOfBounds("one behind", () -> x.told(4));
        check.outOfBounds("-1", () -> x.told(-1));
        check.outOfBounds("least", () -> x.told(Integer.MIN_VALUE));
        check.outOfBounds("greatest", () -> x.told(Integer.MAX_VALUE));
        x.begin(0, 1, 1);
        check.outOfBounds("empty again", () -> x.told(0));
    }

    private void promise18TellsAll() {
        SharingRoom x = Rooms.three();
        x.fault(1, 1, 2);
        x.fault(2, 5, 0);
        x.fault(3, 6, 0);
        Rooms.done(x);
        int[] due = {
            1, 1, 1384 >> 8, 1384 & 255, 877 >> 8, 877 & 255,
            1, 2, 648 >> 8, 648 & 255, 0, 16,
            1, 3, 0, 1, 0, 1,
            2, 2, 1,
            3, 1, 2, 0, 7, 0, 8,
            5, 1, 4, 0, 0, 4,
            5, 2, 288 >> 8, 288 & 255, 0, 16,
            5, 3, 0, 1, 0, 1,
            6, 1, 2, 0, 9, 0, 1,
            6, 2, 2, 0, 11, 0, 1,
            6, 3, 2, 0, 13, 0, 1,
            7, 1, 2, 0, 9, 0, 1,
            7, 2, 2, 0, 11, 0, 1,
            7, 3, 2, 0, 14, 0, 1
        };
        check.same("the board", Arrays.toString(Rooms.boardOf(x)), Arrays.toString(due));
    }

    private void promise18Order() {
        SharingRoom x = new SharingRoom();
        x.begin(0, 3, 3);
        x.give(1, 0, 0, 1000);
        x.fault(3, 2, 2);
        x.fault(1, 1, 3);
        x.fault(2, 2, 1);
        x.fault(1, 5, 0);
        x.fault(2, 5, 0);
        Rooms.rounds(x, 1);
        int from = x.board();
        Rooms.rounds(x, 2);
        int[] complaintsAndAnswers = {
            2, 2, 1, 2, 3, 1, 2, 3, 2,
            3, 1, 2, 3, 232, 0, 0, 3, 1, 3, 3, 232, 0, 0, 3, 2, 3, 0, 0, 0, 0
        };
        int[] board = Rooms.boardOf(x);
        check.same("complaints and answers", Arrays.toString(Arrays.copyOfRange(board, from, board.length)),
                Arrays.toString(complaintsAndAnswers));
        Rooms.rounds(x, 2);
        from = x.board();
        Rooms.rounds(x, 2);
        int[] accusedAndOpened = {
            6, 1, 1, 3, 232, 0, 0, 6, 1, 2, 0, 0, 0, 0, 6, 2, 1, 3, 232, 0, 0, 6, 2, 2, 0, 0, 0, 0,
            6, 3, 1, 3, 232, 0, 0, 6, 3, 2, 0, 0, 0, 0,
            7, 1, 1, 3, 232, 0, 0, 7, 2, 1, 3, 232, 0, 0, 7, 3, 1, 3, 232, 0, 0,
            7, 1, 2, 0, 0, 0, 0, 7, 2, 2, 0, 0, 0, 0, 7, 3, 2, 0, 0, 0, 0
        };
        board = Rooms.boardOf(x);
        check.same("accusations and openings", Arrays.toString(Arrays.copyOfRange(board, from, board.length)),
                Arrays.toString(accusedAndOpened));
    }

    private void promise18Curve() {
        SharingRoom x = new SharingRoom();
        x.begin(1, 1, 1);
        Rooms.done(x);
        check.same("4000", Arrays.toString(Rooms.boardOf(x)), "[1, 1, 15, 160, 5, 1, 15, 160]");
    }

    private void promise19Digest() throws NoSuchAlgorithmException {
        SharingRoom x = new SharingRoom();
        // SHA-256 of nothing: e3b0c442 98fc1c14 .. 7852b855
        check.equal("no room, word 0", x.digest(0), 0xe3b0c442);
        check.equal("no room, word 7", x.digest(7), 0x7852b855);
        check.outOfBounds("word -1", () -> x.digest(-1));
        check.outOfBounds("word 8", () -> x.digest(8));
        x.begin(0, 1, 1);
        check.equal("an empty board", x.digest(1), 0x98fc1c14);
        check.outOfBounds("word 8 in a room", () -> x.digest(8));
        x.next();
        compareDigest(x);
        x.begin(0, 1, 1);
        check.equal("empty again", x.digest(0), 0xe3b0c442);
    }

    private void promise19DigestOfAllLengths() throws NoSuchAlgorithmException {
        Set<Integer> lengths = new HashSet<>();
        for (int n = 1; n <= 7; n++) {
            for (int t = 1; t <= n; t++) {
                for (int slanders = 0; slanders <= (n == 1 ? 0 : n); slanders++) {
                    SharingRoom x = Rooms.many(n, t);
                    for (int j = 1; j <= slanders; j++) {
                        x.fault(j, 2, j % n + 1);
                    }
                    for (int round = 1; round <= 7 && x.state() == 1; round++) {
                        x.next();
                        compareDigest(x);
                        lengths.add(x.board() % 64);
                    }
                }
            }
        }
        int[] edges = {0, 1, 54, 55, 56, 57, 63};
        for (int edge : edges) {
            check.same("a length of " + edge + " modulo 64", String.valueOf(lengths.contains(edge)), "true");
        }
    }

    private void compareDigest(SharingRoom x) throws NoSuchAlgorithmException {
        byte[] bytes = new byte[x.board()];
        for (int k = 0; k < bytes.length; k++) {
            bytes[k] = (byte) x.told(k);
        }
        ByteBuffer due = ByteBuffer.wrap(MessageDigest.getInstance("SHA-256").digest(bytes));
        for (int word = 0; word < 8; word++) {
            check.equal("word " + word + " of " + bytes.length + " bytes", x.digest(word), due.getInt(4 * word));
        }
    }
}
