/** Promises 6 to 9 and 11: a room, its coefficients, faults and crashes, before the rounds. */
public final class SetUpTest {
    private final Check check = new Check();

    public static void main(String[] args) {
        SetUpTest test = new SetUpTest();
        test.promise6BeginRefuses();
        test.promise6BeginIsNew();
        test.promise7Give();
        test.promise7GiveRefuses();
        test.promise7GiveByStage();
        test.promise8FaultRefuses();
        test.promise8FaultReplaces();
        test.promise9Crash();
        test.promise9CrashRefuses();
        test.promise11State();
        test.check.finish("SetUpTest");
    }

    private void promise6BeginRefuses() {
        SharingRoom x = new SharingRoom();
        int[][] wrong = {
            {-1, 3, 2}, {2, 3, 2}, {0, 0, 0}, {0, 0, 1}, {0, 8, 1}, {0, -1, 1}, {0, 3, 0}, {0, 3, 4},
            {1, 7, 8}, {1, 3, -1}
        };
        for (int[] w : wrong) {
            check.badArgument("begin", () -> x.begin(w[0], w[1], w[2]));
        }
        check.equal("no room", x.state(), 0);
        x.begin(1, 2, 2);
        x.next();
        for (int[] w : wrong) {
            check.badArgument("begin", () -> x.begin(w[0], w[1], w[2]));
        }
        check.equal("the room before stays", x.next(), 2);
        for (int n = 1; n <= 7; n++) {
            for (int t = 1; t <= n; t++) {
                x.begin(t % 2, n, t);
                check.equal("all parties", x.parties(3), (1 << n) - 1);
                int last = t - 1;
                int first = x.commitment(n, last, 0);
                check.equal("the last coefficient", first, -1);
                int none = t;
                check.badArgument("one coefficient too many", () -> x.commitment(1, none, 0));
            }
        }
    }

    private void promise6BeginIsNew() {
        SharingRoom x = Rooms.three();
        x.fault(1, 1, 2);
        x.fault(2, 0, 0);
        x.fault(3, 2, 1);
        x.crash(3, 3);
        Rooms.rounds(x, 4);
        x.begin(0, 3, 2);
        check.equal("state", x.state(), 1);
        check.equal("qualified", x.parties(0), 0);
        check.equal("working", x.parties(3), 7);
        check.equal("complaints", x.complaints(1), 0);
        check.equal("received", x.received(1, 2, 0), -1);
        check.equal("commitment", x.commitment(1, 0, 0), -1);
        check.equal("share", x.share(1, 0), -1);
        check.equal("blind", x.share(1, 1), -1);
        check.equal("board", x.board(), 0);
        Rooms.done(x);
        check.equal("nobody is out", x.parties(0), 7);
        check.equal("no coefficients", x.key(), 1);
        check.equal("no faults: the board has deals and extracts alone", x.board(), 36);
        x.begin(0, 3, 2);
        x.fault(2, 5, 0);
        Rooms.done(x);
        check.equal("accused", x.parties(1), 2);
        check.equal("opened", x.parties(2), 2);
        x.begin(0, 3, 2);
        check.equal("nobody is accused", x.parties(1), 0);
        check.equal("nobody is opened", x.parties(2), 0);
    }

    private void promise7Give() {
        SharingRoom x = new SharingRoom();
        int[][] values = {
            {0, 0}, {1, 1}, {30, 30}, {31, 0}, {-1, 30}, {-31, 0}, {-32, 30}, {1000, 8},
            {Integer.MAX_VALUE, Math.floorMod(Integer.MAX_VALUE, 31)},
            {Integer.MIN_VALUE, Math.floorMod(Integer.MIN_VALUE, 31)}
        };
        for (int[] v : values) {
            x.begin(1, 2, 2);
            x.give(2, 1, 0, v[0]);
            x.give(2, 0, 1, v[0]);
            x.next();
            check.equal("a(2, 1) = " + v[0], x.received(2, 1, 0), v[1]);
            check.equal("b(2, 0) = " + v[0], x.received(2, 1, 1), v[1]);
            check.equal("a(1, 1) is 0", x.received(1, 1, 0), 0);
        }
        x.begin(0, 1, 1);
        x.give(1, 0, 0, 5);
        x.give(1, 0, 0, -1);
        x.next();
        check.equal("the last one counts, modulo 1019", x.received(1, 1, 0), 1018);
    }

    private void promise7GiveRefuses() {
        SharingRoom x = new SharingRoom();
        check.badState("without a room", () -> x.give(1, 0, 0, 1));
        check.badState("without a room, and all wrong", () -> x.give(0, -1, 2, 1));
        x.begin(0, 3, 2);
        int[][] wrong = {{0, 0, 0}, {4, 0, 0}, {-1, 0, 0}, {1, 2, 0}, {1, -1, 0}, {1, 0, 2}, {1, 0, -1}};
        for (int[] w : wrong) {
            check.badArgument("give", () -> x.give(w[0], w[1], w[2], 1));
        }
        x.next();
        check.badState("in rounds", () -> x.give(1, 0, 0, 1));
        check.badState("in rounds, and all wrong", () -> x.give(4, 0, 0, 1));
    }

    private void promise7GiveByStage() {
        SharingRoom x = Rooms.three();
        for (int round = 1; round <= 6; round++) {
            x.next();
            check.badState("give after round " + round, () -> x.give(1, 1, 0, 1));
        }
        x.next();
        x.give(1, 1, 0, 100);
        check.badArgument("no such party of a done room", () -> x.give(4, 1, 0, 1));
        x.refresh();
        // In all 12 + 3 x and 100 x + 2 x of the parties 1 and 2.
        check.equal("what was given when done counts", x.share(1, 0), 12 + 3 + 102);

        SharingRoom y = new SharingRoom();
        y.begin(0, 1, 1);
        y.fault(1, 0, 0);
        Rooms.rounds(y, 4);
        check.equal("failed", y.state(), 3);
        y.give(1, 0, 0, 1);
        check.badArgument("no such party of a failed room", () -> y.give(2, 0, 0, 1));
    }

    private void promise8FaultRefuses() {
        SharingRoom x = new SharingRoom();
        check.badState("without a room", () -> x.fault(1, 0, 0));
        check.badState("without a room, and all wrong", () -> x.fault(0, 9, 0));
        x.begin(0, 3, 2);
        int[][] wrong = {
            {0, 0, 1}, {4, 0, 1}, {1, -1, 2}, {1, 7, 2}, {1, 1, 1}, {1, 1, 0}, {1, 1, 4}, {1, 1, -3},
            {2, 2, 2}, {2, 2, 0}, {2, 2, 4}
        };
        for (int[] w : wrong) {
            check.badArgument("fault", () -> x.fault(w[0], w[1], w[2]));
        }
        for (int kind = 0; kind < 7; kind++) {
            if (kind != 1 && kind != 2) {
                x.fault(3, kind, -99);
            }
        }
        x.next();
        check.badState("after a round", () -> x.fault(1, 0, 0));
        check.badState("after a round, and all wrong", () -> x.fault(0, 0, 0));
        SharingRoom y = Rooms.done(Rooms.three());
        check.badState("when done", () -> y.fault(1, 0, 0));
        y.refresh();
        check.badState("when refreshed", () -> y.fault(1, 0, 0));
        SharingRoom alone = new SharingRoom();
        alone.begin(0, 1, 1);
        check.badArgument("no other party", () -> alone.fault(1, 1, 2));
    }

    private void promise8FaultReplaces() {
        SharingRoom x = Rooms.three();
        x.fault(1, 1, 2);
        check.badArgument("a refused one", () -> x.fault(1, 1, 1));
        x.fault(3, 2, 1);
        x.next();
        check.equal("a refused fault leaves the one before", x.received(1, 2, 0), 8);

        SharingRoom y = Rooms.three();
        y.fault(1, 1, 2);
        y.fault(1, 1, 3);
        y.fault(2, 2, 1);
        y.fault(2, 2, 3);
        Rooms.rounds(y, 2);
        check.equal("no longer bad to 2", y.received(1, 2, 0), 7);
        check.equal("bad to 3", y.received(1, 3, 0), 9);
        check.equal("3 complains, 2 no longer slanders 1", y.complaints(1), 4);
        check.equal("2 slanders 3", y.complaints(3), 2);
    }

    private void promise9Crash() {
        for (int round = 1; round <= 8; round++) {
            SharingRoom x = Rooms.three();
            x.crash(2, 9 - round);
            x.crash(2, round);
            for (int done = 0; done < 7; done++) {
                check.equal("crash in " + round + ", after " + done, x.parties(3), done + 1 < round ? 7 : 5);
                x.next();
            }
            check.equal("crash in " + round + ", done", x.parties(3), round == 8 ? 7 : 5);
        }
    }

    private void promise9CrashRefuses() {
        SharingRoom x = new SharingRoom();
        check.badState("without a room", () -> x.crash(1, 1));
        check.badState("without a room, and all wrong", () -> x.crash(0, 0));
        x.begin(0, 3, 2);
        int[][] wrong = {{0, 1}, {4, 1}, {-1, 1}, {1, 0}, {1, 9}, {1, -1}};
        for (int[] w : wrong) {
            check.badArgument("crash", () -> x.crash(w[0], w[1]));
        }
        check.equal("nobody crashed", x.parties(3), 7);
        x.next();
        check.badState("after a round", () -> x.crash(1, 5));
        check.badState("after a round, and all wrong", () -> x.crash(9, 9));
        SharingRoom y = Rooms.done(Rooms.three());
        check.badState("when done", () -> y.crash(1, 8));
    }

    private void promise11State() {
        SharingRoom x = new SharingRoom();
        check.equal("no room", x.state(), 0);
        x.begin(0, 2, 1);
        check.equal("before the rounds", x.state(), 1);
        for (int round = 1; round <= 6; round++) {
            x.next();
            check.equal("after round " + round, x.state(), 1);
        }
        x.next();
        check.equal("done", x.state(), 2);
        x.refresh();
        check.equal("refreshed", x.state(), 2);
        x.handOn(1, 2, 3);
        check.equal("handed on", x.state(), 2);
        x.begin(0, 1, 1);
        x.crash(1, 1);
        Rooms.rounds(x, 4);
        check.equal("failed in round 4", x.state(), 3);
        x.begin(1, 1, 1);
        check.equal("a new room", x.state(), 1);
        x.crash(1, 5);
        Rooms.rounds(x, 6);
        check.equal("not failed yet", x.state(), 1);
        x.next();
        check.equal("failed in round 7", x.state(), 3);
    }
}
