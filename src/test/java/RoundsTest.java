/** Promises 10 to 16 and 20: the seven rounds, and what is told of them. */
public final class RoundsTest {
    private static final int SILENT = 0;
    private static final int BAD = 1;
    private static final int SLANDERS = 2;
    private static final int DUMB = 3;
    private static final int LIES = 4;
    private static final int FORGES = 5;
    private static final int WRONG = 6;

    private final Check check = new Check();

    public static void main(String[] args) {
        RoundsTest test = new RoundsTest();
        test.promise10Next();
        test.promise12Parties();
        test.promise13Complaints();
        test.promise13DoubleReason();
        test.promise14Received();
        test.promise14Bad();
        test.promise14Wraps();
        test.promise15Commitment();
        test.promise15Curve();
        test.promise16Share();
        test.promise20Key();
        test.honestRoom();
        test.silent();
        test.notAnswered();
        test.answeredWrongly();
        test.tooManyComplaints();
        test.crashedParties();
        test.nothingExtracted();
        test.forged();
        test.wrongWitnesses();
        test.outsidersAccuse();
        test.check.finish("RoundsTest");
    }

    private static SharingRoom with(SharingRoom x, int[]... faults) {
        for (int[] f : faults) {
            x.fault(f[0], f[1], f.length > 2 ? f[2] : 0);
        }
        return x;
    }

    private static int[] is(int... fault) {
        return fault;
    }

    private void promise10Next() {
        SharingRoom x = new SharingRoom();
        check.badState("without a room", x::next);
        x.begin(0, 2, 2);
        for (int round = 1; round <= 7; round++) {
            check.equal("round", x.next(), round);
        }
        check.badState("done", x::next);
        x.refresh();
        check.badState("refreshed", x::next);
        x.handOn(3, 1, 1);
        check.badState("handed on", x::next);
        x.begin(0, 2, 2);
        check.equal("a new room", x.next(), 1);
        SharingRoom failed = with(Rooms.three(), is(1, SILENT), is(2, SILENT), is(3, SILENT));
        Rooms.rounds(failed, 3);
        check.equal("the round that fails", failed.next(), 4);
        check.badState("failed in round 4", failed::next);
        SharingRoom late = with(Rooms.three(), is(1, FORGES), is(2, WRONG), is(3, WRONG));
        Rooms.rounds(late, 6);
        check.equal("the last round that fails", late.next(), 7);
        check.badState("failed in round 7", late::next);
    }

    private void promise12Parties() {
        SharingRoom x = new SharingRoom();
        for (int what = 0; what < 4; what++) {
            check.equal("no room", x.parties(what), 0);
        }
        int[] others = {-1, 4, Integer.MIN_VALUE, Integer.MAX_VALUE};
        for (int what : others) {
            check.equal("no room, other whats", x.parties(what), -1);
            check.equal("other whats", Rooms.three().parties(what), -1);
        }
        SharingRoom y = with(Rooms.three(), is(2, FORGES), is(3, SILENT));
        for (int round = 0; round <= 7; round++) {
            check.equal("qualified after " + round, y.parties(0), round < 4 ? 0 : 3);
            check.equal("accused after " + round, y.parties(1), round < 6 ? 0 : 2);
            check.equal("opened after " + round, y.parties(2), round < 7 ? 0 : 2);
            check.equal("working after " + round, y.parties(3), 7);
            if (round < 7) {
                y.next();
            }
        }
        SharingRoom failed = with(Rooms.three(), is(1, SILENT), is(2, SILENT), is(3, SILENT));
        failed.crash(1, 6);
        failed.crash(2, 1);
        Rooms.rounds(failed, 3);
        check.equal("working in round 4", failed.parties(3), 5);
        failed.next();
        check.equal("failed: those that never crash", failed.parties(3), 4);
        check.equal("failed: nobody is qualified", failed.parties(0), 0);
    }

    private void promise13Complaints() {
        SharingRoom x = new SharingRoom();
        check.badArgument("no room", () -> x.complaints(1));
        SharingRoom y = with(Rooms.many(4, 3), is(1, BAD, 3), is(2, SLANDERS, 1), is(4, SLANDERS, 3),
                is(3, SILENT));
        check.badArgument("party 0", () -> y.complaints(0));
        check.badArgument("party 5", () -> y.complaints(5));
        y.next();
        check.equal("before round 2", y.complaints(1), 0);
        y.next();
        check.equal("of bad numbers, and slander", y.complaints(1), 4 + 2);
        check.equal("nobody", y.complaints(2), 0);
        check.equal("not about one that did not deal", y.complaints(3), 0);
        check.equal("board: two complaints", y.board(), 3 * 8 + 2 * 3);
        Rooms.rounds(y, 5);
        check.equal("still when done", y.complaints(1), 6);
        SharingRoom crashed = with(Rooms.three(), is(1, BAD, 2), is(3, SLANDERS, 1));
        crashed.crash(2, 2);
        crashed.crash(3, 3);
        Rooms.rounds(crashed, 2);
        check.equal("who does not work does not complain", crashed.complaints(1), 4);
    }

    private void promise13DoubleReason() {
        SharingRoom x = with(Rooms.three(), is(1, BAD, 2), is(2, SLANDERS, 1));
        Rooms.rounds(x, 2);
        check.equal("bad and slandered", x.complaints(1), 2);
        check.equal("one complaint on the board", x.board(), 18 + 3);
        Rooms.rounds(x, 2);
        check.equal("one complaint counts", x.parties(0), 7);
    }

    private void promise14Received() {
        SharingRoom x = new SharingRoom();
        check.badArgument("no room", () -> x.received(1, 1, 0));
        SharingRoom y = Rooms.three();
        int[][] wrong = {{0, 1, 0}, {4, 1, 0}, {1, 0, 0}, {1, 4, 0}, {1, 1, -1}, {1, 1, 2}, {-1, 1, 0}};
        for (int[] w : wrong) {
            check.badArgument("received", () -> y.received(w[0], w[1], w[2]));
        }
        check.equal("nothing yet", y.received(1, 1, 0), -1);
        check.equal("nothing yet", y.received(1, 1, 1), -1);
        y.next();
        for (int j = 1; j <= 3; j++) {
            check.equal("f(1, " + j + ")", y.received(1, j, 0), 5 + j);
            check.equal("e(1, " + j + ")", y.received(1, j, 1), 2 + 3 * j);
            check.equal("f(2, " + j + ")", y.received(2, j, 0), 7 + 2 * j);
            check.equal("e(2, " + j + ")", y.received(2, j, 1), 1);
            check.equal("f(3, " + j + ")", y.received(3, j, 0), 0);
        }
        SharingRoom cubic = new SharingRoom();
        cubic.begin(0, 5, 4);
        Rooms.giveAll(cubic, 2, 0, 1, 20, 300, 4);
        cubic.next();
        check.equal("f(2, 5)", cubic.received(2, 5, 0), (1 + 100 + 7500 + 500) % 1019);
    }

    private void promise14Bad() {
        SharingRoom x = with(Rooms.three(), is(1, BAD, 2));
        x.next();
        check.equal("bad", x.received(1, 2, 0), 8);
        check.equal("the second number is not", x.received(1, 2, 1), 8);
        check.equal("not to others", x.received(1, 3, 0), 8);
        Rooms.rounds(x, 2);
        check.equal("answered, not yet taken", x.received(1, 2, 0), 8);
        x.next();
        check.equal("taken", x.received(1, 2, 0), 7);
        check.equal("qualified", x.parties(0), 7);
        check.equal("share", x.share(2, 0), 18);
    }

    private void promise14Wraps() {
        SharingRoom x = new SharingRoom();
        x.begin(1, 3, 3);
        x.give(1, 0, 0, 30);
        with(x, is(1, BAD, 2), is(1, LIES), is(3, SLANDERS, 1), is(1, FORGES), is(1, WRONG));
        x.next();
        check.equal("bad: 30 and 1", x.received(1, 2, 0), 0);
        Rooms.rounds(x, 3);
        check.equal("lies: 30 and 1", x.received(1, 3, 0), 0);
        x.begin(1, 1, 1);
        x.give(1, 0, 0, 30);
        with(x, is(1, FORGES), is(1, WRONG));
        Rooms.rounds(x, 5);
        check.equal("forges: 30 and 1", x.commitment(1, 0, 1), 4000);
        Rooms.rounds(x, 2);
        int[] board = Rooms.boardOf(x);
        check.equal("wrong: 30 and 1, higher byte", board[board.length - 4], 0);
        check.equal("wrong: 30 and 1, lower byte", board[board.length - 3], 0);
    }

    private void promise15Commitment() {
        SharingRoom x = new SharingRoom();
        check.badArgument("no room", () -> x.commitment(1, 0, 0));
        SharingRoom y = Rooms.three();
        int[][] wrong = {{0, 0, 0}, {4, 0, 0}, {1, -1, 0}, {1, 2, 0}, {1, 0, 2}, {1, 0, -1}};
        for (int[] w : wrong) {
            check.badArgument("commitment", () -> y.commitment(w[0], w[1], w[2]));
        }
        check.equal("not yet", y.commitment(1, 0, 0), -1);
        y.next();
        // 4 ^ 5 * 9 ^ 2, 4 * 9 ^ 3, 4 ^ 7 * 9, 4 ^ 2 modulo 2039
        check.equal("C(1, 0)", y.commitment(1, 0, 0), 1384);
        check.equal("C(1, 1)", y.commitment(1, 1, 0), 877);
        check.equal("C(2, 0)", y.commitment(2, 0, 0), 648);
        check.equal("C(2, 1)", y.commitment(2, 1, 0), 16);
        check.equal("C(3, 0)", y.commitment(3, 0, 0), 1);
        Rooms.rounds(y, 3);
        check.equal("not yet", y.commitment(1, 0, 1), -1);
        y.next();
        check.equal("A(1, 0)", y.commitment(1, 0, 1), 1024);
        check.equal("A(1, 1)", y.commitment(1, 1, 1), 4);
        check.equal("A(2, 0)", y.commitment(2, 0, 1), 72);
        check.equal("A(3, 1)", y.commitment(3, 1, 1), 1);
        check.equal("C(1, 0) stays", y.commitment(1, 0, 0), 1384);
    }

    private void promise15Curve() {
        // 2 (2, 12) is (7, 7), 30 (2, 12) is (2, 31); (21, 18) is h.
        int[][] cases = {
            {0, 0, 4000}, {1, 0, 140}, {2, 0, 455}, {30, 0, 159}, {31, 0, 4000}, {0, 1, 64 * 21 + 18},
            {0, 30, 64 * 21 + 25}
        };
        for (int[] c : cases) {
            SharingRoom x = new SharingRoom();
            x.begin(1, 1, 1);
            x.give(1, 0, 0, c[0]);
            x.give(1, 0, 1, c[1]);
            x.next();
            check.equal(c[0] + " g and " + c[1] + " h", x.commitment(1, 0, 0), c[2]);
            Rooms.rounds(x, 6);
            check.equal("always fits", x.state(), 2);
        }
        SharingRoom y = new SharingRoom();
        y.begin(1, 3, 1);
        y.give(1, 0, 0, 2);
        y.give(2, 0, 0, 29);
        Rooms.done(y);
        check.equal("(7, 7) and (7, 36) give the neutral one", y.key(), 4000);
    }

    private void promise16Share() {
        SharingRoom x = new SharingRoom();
        check.badArgument("no room", () -> x.share(1, 0));
        SharingRoom y = Rooms.three();
        int[][] wrong = {{0, 0}, {4, 0}, {-1, 0}, {1, -1}, {1, 2}};
        for (int[] w : wrong) {
            check.badArgument("share", () -> y.share(w[0], w[1]));
        }
        for (int round = 0; round < 4; round++) {
            check.equal("share after " + round, y.share(3, 0), -1);
            check.equal("blind after " + round, y.share(3, 1), -1);
            y.next();
        }
        for (int j = 1; j <= 3; j++) {
            check.equal("share " + j, y.share(j, 0), 12 + 3 * j);
            check.equal("blind " + j, y.share(j, 1), 3 + 3 * j);
        }
        SharingRoom failed = with(Rooms.three(), is(1, SILENT), is(2, SILENT), is(3, SILENT));
        Rooms.rounds(failed, 4);
        check.equal("failed in round 4", failed.share(1, 0), -1);
        check.equal("failed in round 4, blind", failed.share(1, 1), -1);
        SharingRoom late = with(Rooms.three(), is(1, FORGES), is(2, WRONG), is(3, WRONG));
        Rooms.done(late);
        check.equal("failed in round 7", late.share(1, 0), 15);
        check.equal("failed in round 7, blind", late.share(1, 1), 6);
    }

    private void promise20Key() {
        SharingRoom x = new SharingRoom();
        check.equal("no room", x.key(), -1);
        SharingRoom y = Rooms.three();
        for (int round = 0; round < 7; round++) {
            check.equal("after " + round, y.key(), -1);
            y.next();
        }
        check.equal("4 ^ 12 modulo 2039", y.key(), 324);
        SharingRoom failed = with(Rooms.three(), is(1, FORGES), is(2, WRONG), is(3, WRONG));
        Rooms.done(failed);
        check.equal("failed", failed.state(), 3);
        check.equal("failed", failed.key(), -1);
        y.begin(1, 1, 1);
        check.equal("a new room has none", y.key(), -1);
        Rooms.done(y);
        check.equal("the neutral one", y.key(), 4000);
    }

    private void honestRoom() {
        for (int n = 1; n <= 7; n++) {
            for (int t = 1; t <= n; t++) {
                SharingRoom x = Rooms.done(Rooms.many(n, t));
                check.equal("done", x.state(), 2);
                check.equal("all are qualified", x.parties(0), (1 << n) - 1);
                check.equal("nobody is accused", x.parties(1), 0);
                check.equal("nobody is opened", x.parties(2), 0);
                check.equal("the secret", x.recover((1 << t) - 1), 5 * n * (n + 1));
                check.equal("the board", x.board(), 2 * n * (2 + 2 * t));
            }
        }
    }

    private void silent() {
        SharingRoom x = with(Rooms.three(), is(2, SILENT), is(1, BAD, 2));
        x.next();
        check.equal("nothing shown", x.commitment(2, 0, 0), -1);
        check.equal("nothing sent", x.received(2, 1, 0), -1);
        check.equal("nothing sent to itself", x.received(2, 2, 1), -1);
        x.next();
        check.equal("it complains all the same", x.complaints(1), 2);
        Rooms.rounds(x, 5);
        check.equal("out", x.parties(0), 5);
        check.equal("not in the share", x.share(2, 0), 7);
        check.equal("no A of it", x.commitment(2, 0, 1), -1);
        check.equal("not in the key", x.key(), 1024);
    }

    private void notAnswered() {
        SharingRoom dumb = with(Rooms.three(), is(1, BAD, 2), is(1, DUMB), is(1, LIES));
        Rooms.rounds(dumb, 4);
        check.equal("dumb: out", dumb.parties(0), 6);
        check.equal("dumb: nothing to take", dumb.received(1, 2, 0), 8);
        check.equal("dumb: not in the share", dumb.share(2, 0), 11);
        SharingRoom crashed = with(Rooms.three(), is(1, BAD, 2));
        crashed.crash(1, 3);
        Rooms.rounds(crashed, 4);
        check.equal("crashed: out", crashed.parties(0), 6);
        SharingRoom later = with(Rooms.three(), is(1, BAD, 2));
        later.crash(1, 4);
        Rooms.rounds(later, 4);
        check.equal("crashed after its answer", later.parties(0), 7);
        SharingRoom nobody = with(Rooms.three(), is(1, DUMB));
        Rooms.rounds(nobody, 4);
        check.equal("dumb without complaints", nobody.parties(0), 7);
    }

    private void answeredWrongly() {
        SharingRoom x = with(Rooms.three(), is(3, SLANDERS, 1), is(1, LIES));
        Rooms.rounds(x, 3);
        check.equal("before it takes the answer", x.received(1, 3, 0), 8);
        x.next();
        check.equal("out", x.parties(0), 6);
        check.equal("takes it also of one that is out", x.received(1, 3, 0), 9);
        check.equal("the second number is true", x.received(1, 3, 1), 11);
        SharingRoom nobody = with(Rooms.three(), is(1, LIES));
        Rooms.rounds(nobody, 4);
        check.equal("lies without complaints", nobody.parties(0), 7);
        SharingRoom alone = new SharingRoom();
        alone.begin(0, 2, 2);
        with(alone, is(1, SILENT), is(2, LIES), is(1, SLANDERS, 2));
        Rooms.rounds(alone, 4);
        check.equal("nobody is left", alone.state(), 3);
        check.equal("takes it also when the room failed", alone.received(2, 1, 0), 1);
    }

    private void tooManyComplaints() {
        SharingRoom two = with(Rooms.many(4, 2), is(2, SLANDERS, 1), is(3, SLANDERS, 1), is(4, SLANDERS, 3));
        Rooms.rounds(two, 4);
        check.equal("two of threshold 2", two.parties(0), 14);
        SharingRoom three = with(Rooms.many(4, 3), is(2, SLANDERS, 1), is(3, SLANDERS, 1));
        Rooms.rounds(three, 4);
        check.equal("two of threshold 3", three.parties(0), 15);
        SharingRoom one = with(Rooms.many(2, 1), is(2, SLANDERS, 1));
        Rooms.rounds(one, 4);
        check.equal("one of threshold 1", one.parties(0), 2);
    }

    private void crashedParties() {
        SharingRoom first = Rooms.three();
        first.crash(2, 1);
        Rooms.rounds(first, 4);
        check.equal("did not deal", first.parties(0), 5);
        check.equal("is sent numbers all the same", first.received(1, 2, 0), 7);
        check.equal("has a share all the same", first.share(2, 0), 7);
        SharingRoom second = with(Rooms.three(), is(1, BAD, 2));
        second.crash(2, 2);
        Rooms.rounds(second, 4);
        check.equal("keeps bad numbers", second.share(2, 0), 19);
        for (int round = 3; round <= 4; round++) {
            SharingRoom third = with(Rooms.three(), is(1, BAD, 2));
            third.crash(2, round);
            Rooms.rounds(third, 4);
            check.equal("complained, and takes the answer", third.received(1, 2, 0), 7);
        }
    }

    private void nothingExtracted() {
        SharingRoom x = Rooms.three();
        x.crash(1, 5);
        Rooms.rounds(x, 6);
        check.equal("qualified", x.parties(0), 7);
        check.equal("shows nothing", x.commitment(1, 0, 1), -1);
        check.equal("not accused", x.parties(1), 0);
        x.next();
        check.equal("done", x.state(), 2);
        check.equal("laid open", x.parties(2), 1);
        check.equal("the key", x.key(), 324);
        SharingRoom few = Rooms.three();
        few.crash(1, 5);
        few.crash(2, 7);
        Rooms.done(few);
        check.equal("one of two witnesses", few.state(), 3);
        check.equal("not laid open", few.parties(2), 0);
        SharingRoom enough = Rooms.three();
        enough.crash(1, 6);
        enough.crash(2, 6);
        enough.crash(3, 6);
        Rooms.done(enough);
        check.equal("all showed theirs and crashed then", enough.state(), 2);
        check.equal("the key of those", enough.key(), 324);
    }

    private void forged() {
        SharingRoom x = with(Rooms.three(), is(2, FORGES));
        Rooms.rounds(x, 5);
        check.equal("A(2, 0) is 4 ^ 8", x.commitment(2, 0, 1), 288);
        check.equal("A(2, 1) is true", x.commitment(2, 1, 1), 16);
        int before = x.board();
        x.next();
        check.equal("accused", x.parties(1), 2);
        check.equal("by all three, itself too", x.board() - before, 21);
        x.next();
        check.equal("opened", x.parties(2), 2);
        check.equal("the key", x.key(), 324);
        SharingRoom alone = with(Rooms.three(), is(2, FORGES));
        alone.crash(1, 6);
        alone.crash(2, 6);
        alone.crash(3, 6);
        Rooms.done(alone);
        check.equal("nobody accuses", alone.parties(1), 0);
        check.equal("a forged key", alone.key(), 1024 * 288 % 2039);
    }

    private void wrongWitnesses() {
        for (int wrong = 1; wrong <= 3; wrong++) {
            SharingRoom x = with(Rooms.three(), is(2, FORGES), is(wrong, WRONG));
            Rooms.done(x);
            check.equal("one wrong witness", x.state(), 2);
            check.equal("one wrong witness: the key", x.key(), 324);
            check.equal("what it has is as it was", x.received(2, wrong, 0), 7 + 2 * wrong);
        }
        SharingRoom two = with(Rooms.three(), is(2, FORGES), is(1, WRONG), is(3, WRONG), is(1, FORGES));
        Rooms.done(two);
        check.equal("two wrong witnesses", two.state(), 3);
        check.equal("nothing opened", two.parties(2), 0);
        check.equal("both accused", two.parties(1), 3);
        SharingRoom nobody = with(Rooms.three(), is(1, WRONG), is(2, WRONG), is(3, WRONG));
        Rooms.done(nobody);
        check.equal("nothing to witness", nobody.key(), 324);
    }

    private void outsidersAccuse() {
        SharingRoom x = with(Rooms.three(), is(1, FORGES), is(3, SILENT));
        x.crash(1, 6);
        x.crash(2, 6);
        Rooms.rounds(x, 6);
        check.equal("party 3 is out and accuses", x.parties(1), 1);
        SharingRoom y = with(Rooms.three(), is(1, FORGES), is(1, BAD, 2), is(1, DUMB));
        Rooms.done(y);
        check.equal("nobody accuses one that is out", y.parties(1), 0);
        check.equal("it shows no A", y.commitment(1, 0, 1), -1);
        check.equal("the key of the others", y.key(), 72);
    }
}
