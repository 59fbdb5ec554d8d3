/** Promises 21 to 23: the secret of a done room, shares made anew, and shares handed on. */
public final class AfterDoneTest {
    private final Check check = new Check();

    public static void main(String[] args) {
        AfterDoneTest test = new AfterDoneTest();
        test.promise21Recover();
        test.promise21RecoverThroughAll();
        test.promise21RecoverRefuses();
        test.promise22Refresh();
        test.promise22RefreshByThoseThatWork();
        test.promise22RefreshRefuses();
        test.promise23HandOn();
        test.promise23HandOnThresholds();
        test.promise23HandOnByCrashed();
        test.promise23HandOnKeeps();
        test.promise23HandOnForgets();
        test.promise23HandOnRefuses();
        test.check.finish("AfterDoneTest");
    }

    private void checkShares(String what, SharingRoom x, int... due) {
        for (int j = 1; j <= due.length; j++) {
            check.equal(what + ": share " + j, x.share(j, 0), Math.floorMod(due[j - 1], 1019));
        }
        int none = due.length + 1;
        check.badArgument(what + ": no more shares", () -> x.share(none, 0));
    }

    private void promise21Recover() {
        SharingRoom x = Rooms.done(Rooms.three());
        int[] enough = {3, 5, 6, 7};
        for (int who : enough) {
            check.equal("recover " + who, x.recover(who), 12);
        }
        SharingRoom y = new SharingRoom();
        y.begin(1, 7, 7);
        y.give(7, 0, 0, 29);
        y.give(7, 6, 0, 3);
        Rooms.done(y);
        check.equal("seven of seven", y.recover(127), 29);
        y.begin(1, 7, 1);
        y.give(7, 0, 0, 29);
        Rooms.done(y);
        check.equal("one of seven", y.recover(64), 29);
    }

    private void promise21RecoverThroughAll() {
        SharingRoom x = Rooms.three();
        x.fault(1, 1, 2);
        x.crash(2, 2);
        Rooms.done(x);
        // Party 2 kept a bad number: 15, 19, 21.
        check.equal("1 and 2", x.recover(3), 2 * 15 - 19);
        check.equal("2 and 3", x.recover(6), 3 * 19 - 2 * 21);
        check.equal("1 and 3", x.recover(5), 12);
        check.equal("all", x.recover(7), 3 * 15 - 3 * 19 + 21);
    }

    private void promise21RecoverRefuses() {
        SharingRoom none = new SharingRoom();
        check.badState("no room", () -> none.recover(1));
        SharingRoom x = Rooms.three();
        for (int round = 0; round < 7; round++) {
            check.badState("not done", () -> x.recover(3));
            check.badState("not done, and nobody", () -> x.recover(0));
            x.next();
        }
        int[] wrong = {0, 1, 2, 4, 8, 9, 11, 15, 64, -1, -8, Integer.MIN_VALUE, Integer.MIN_VALUE + 3};
        for (int who : wrong) {
            check.badArgument("recover " + who, () -> x.recover(who));
        }
        SharingRoom failed = Rooms.three();
        failed.crash(1, 5);
        failed.crash(2, 5);
        Rooms.done(failed);
        check.equal("failed", failed.state(), 3);
        check.badState("failed", () -> failed.recover(3));
        check.badState("failed", failed::refresh);
        check.badState("failed", () -> failed.handOn(3, 1, 1));
    }

    private void promise22Refresh() {
        SharingRoom x = Rooms.done(Rooms.three());
        x.refresh();
        checkShares("refreshed", x, 18, 24, 30);
        check.equal("the blind is 0", x.share(1, 1), 0);
        check.equal("the key stays", x.key(), 324);
        check.equal("the secret stays", x.recover(6), 12);
        check.equal("received as it was", x.received(1, 2, 0), 7);
        check.equal("commitment as it was", x.commitment(1, 0, 0), 1384);
        check.equal("A as it was", x.commitment(2, 0, 1), 72);
        check.equal("qualified as they were", x.parties(0), 7);
        x.refresh();
        checkShares("coefficients are gone", x, 18, 24, 30);
        x.give(3, 0, 0, 77);
        x.give(3, 1, 1, 88);
        x.give(3, 1, 0, -10);
        x.refresh();
        checkShares("only a(i, 1) .. count", x, 8, 4, 0);
        x.begin(0, 2, 1);
        x.give(1, 0, 0, 3);
        x.give(1, 0, 1, 4);
        Rooms.done(x);
        check.equal("a blind", x.share(1, 1), 4);
        x.refresh();
        checkShares("of threshold 1", x, 3, 3);
        check.equal("the blind of threshold 1", x.share(1, 1), 0);
    }

    private void promise22RefreshByThoseThatWork() {
        SharingRoom x = Rooms.three();
        x.crash(2, 7);
        Rooms.done(x);
        check.equal("2 does not work", x.parties(3), 5);
        x.refresh();
        checkShares("without 2", x, 16, 20, 24);
        check.equal("all work", x.parties(3), 7);
        x.give(2, 1, 0, 5);
        x.refresh();
        checkShares("with 2", x, 21, 30, 39);
        SharingRoom out = Rooms.three();
        out.fault(2, 0, 0);
        Rooms.done(out);
        out.refresh();
        // 5 + x of the qualified ones, and x + 2 x.
        checkShares("also those that are out", out, 9, 13, 17);
    }

    private void promise22RefreshRefuses() {
        SharingRoom none = new SharingRoom();
        check.badState("no room", none::refresh);
        SharingRoom x = Rooms.three();
        for (int round = 0; round < 7; round++) {
            check.badState("not done", x::refresh);
            x.next();
        }
        x.refresh();
        check.equal("done", x.state(), 2);
    }

    private void promise23HandOn() {
        SharingRoom x = Rooms.done(Rooms.three());
        x.handOn(5, 2, 4);
        // 3/2 (15 + x) - 1/2 21 = 12 + 3/2 x, and 3/2 is 511 modulo 1019.
        checkShares("by 1 and 3", x, 12 + 511, 15, 12 + 511 + 3, 18);
        check.equal("the secret stays", x.recover(10), 12);
        check.equal("the key stays", x.key(), 324);
        check.equal("the blind is 0", x.share(1, 1), 0);
        check.equal("the blind of a new party", x.share(4, 1), 0);
        check.equal("all work", x.parties(3), 15);
        check.badArgument("one of threshold 2", () -> x.recover(8));
        SharingRoom all = Rooms.done(Rooms.three());
        all.handOn(7, 2, 2);
        // 3 (15 + x) - 3 (18 + 2 x) + 21
        checkShares("by all", all, 12 - 3, 12 - 6);
    }

    private void promise23HandOnThresholds() {
        SharingRoom lower = Rooms.done(Rooms.three());
        lower.handOn(6, 1, 2);
        checkShares("threshold 1", lower, 12, 12);
        check.equal("one tells it", lower.recover(2), 12);
        check.badArgument("coefficient 1 of threshold 1", () -> lower.give(1, 1, 0, 1));
        SharingRoom higher = Rooms.done(Rooms.three());
        higher.handOn(6, 3, 5);
        // 3 (18 + 2 x) - 2 21
        checkShares("threshold 3", higher, 18, 24, 30, 36, 42);
        check.badArgument("two of threshold 3", () -> higher.recover(3));
        higher.give(5, 2, 0, 1);
        higher.refresh();
        checkShares("a new party refreshes", higher, 19, 28, 39, 52, 67);
        check.equal("the secret stays", higher.recover(28), 12);
        higher.give(1, 1, 0, 9);
        higher.handOn(31, 5, 7);
        check.equal("by five to seven", higher.recover(124), 12);
        higher.handOn(127, 7, 7);
        check.equal("seven of seven", higher.recover(127), 12);
    }

    private void promise23HandOnByCrashed() {
        SharingRoom x = Rooms.three();
        x.crash(2, 7);
        x.crash(3, 7);
        Rooms.done(x);
        x.handOn(6, 2, 2);
        checkShares("by those that crashed", x, 18, 24);
        check.equal("all work", x.parties(3), 3);
    }

    private void promise23HandOnKeeps() {
        SharingRoom x = Rooms.three();
        x.fault(1, 5, 0);
        x.fault(3, 5, 0);
        x.fault(3, 2, 1);
        Rooms.done(x);
        int bytes = x.board();
        int word = x.digest(0);
        x.handOn(3, 1, 1);
        check.equal("qualified of those that there are", x.parties(0), 1);
        check.equal("accused of those that there are", x.parties(1), 1);
        check.equal("opened of those that there are", x.parties(2), 1);
        check.equal("complaints of those that there are", x.complaints(1), 0);
        check.equal("received", x.received(1, 1, 1), 5);
        check.equal("commitment", x.commitment(1, 0, 0), 1384);
        check.equal("the board", x.board(), bytes);
        check.equal("its digest", x.digest(0), word);
        check.badArgument("no party 2", () -> x.received(1, 2, 0));
        check.badArgument("no party 2", () -> x.complaints(2));
        check.badArgument("no party 2", () -> x.commitment(2, 0, 0));
        check.badArgument("no coefficient 1", () -> x.commitment(1, 1, 0));
        x.handOn(1, 3, 6);
        check.equal("qualified are kept", x.parties(0), 7);
        check.equal("accused are kept", x.parties(1), 5);
        check.equal("opened are kept", x.parties(2), 5);
        check.equal("complaints are kept", x.complaints(1), 4);
        check.equal("received is kept", x.received(2, 3, 0), 13);
        check.equal("commitments are kept", x.commitment(2, 1, 1), 16);
        check.equal("it showed fewer", x.commitment(2, 2, 1), -1);
        check.equal("a new party showed nothing", x.commitment(4, 0, 0), -1);
        check.equal("a new party has nothing", x.received(1, 4, 0), -1);
        check.equal("nobody has of a new party", x.received(6, 1, 1), -1);
        check.equal("nobody complained about a new party", x.complaints(6), 0);
        check.equal("all work", x.parties(3), 63);
    }

    private void promise23HandOnForgets() {
        SharingRoom x = Rooms.done(Rooms.three());
        x.give(1, 1, 0, 900);
        x.handOn(3, 2, 3);
        // 2 (15 + 900 x) - (18 + 2 x)
        checkShares("with what was given last", x, 12 + 1798, 12 + 2 * 1798, 12 + 3 * 1798);
        x.refresh();
        checkShares("coefficients are gone", x, 12 + 1798, 12 + 2 * 1798, 12 + 3 * 1798);
        check.badState("a round was done", () -> x.fault(1, 0, 0));
        check.badState("a round was done", () -> x.crash(1, 8));
    }

    private void promise23HandOnRefuses() {
        SharingRoom none = new SharingRoom();
        check.badState("no room", () -> none.handOn(1, 1, 1));
        SharingRoom x = Rooms.three();
        for (int round = 0; round < 7; round++) {
            check.badState("not done", () -> x.handOn(3, 1, 1));
            check.badState("not done, and all wrong", () -> x.handOn(0, 0, 0));
            x.next();
        }
        int[][] wrong = {
            {0, 1, 1}, {1, 1, 1}, {4, 1, 1}, {8, 1, 1}, {11, 1, 1}, {15, 1, 1}, {-1, 1, 1},
            {3, 0, 1}, {3, 2, 1}, {3, 1, 0}, {3, 0, 0}, {3, 1, 8}, {3, 8, 7}, {3, -1, 3}, {3, 8, 8}
        };
        for (int[] w : wrong) {
            check.badArgument("handOn", () -> x.handOn(w[0], w[1], w[2]));
        }
        checkShares("refused ones change nothing", x, 15, 18, 21);
        check.equal("blinds neither", x.share(1, 1), 6);
        check.equal("coefficients neither", x.parties(3), 7);
    }
}
