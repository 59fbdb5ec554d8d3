import java.util.Arrays;

/** Boundary cases of the rounds as "Terms" tells them: one test for each sentence that names one. */
public final class RoundBoundsTest {
    private static final int[] ORDERS = {1019, 31};
    private static final int SILENT = 0;
    private static final int BAD = 1;
    private static final int SLANDERS = 2;
    private static final int DUMB = 3;
    private static final int LIES = 4;
    private static final int FORGES = 5;
    private static final int WRONG = 6;

    private final Check check = new Check();

    public static void main(String[] args) {
        RoundBoundsTest test = new RoundBoundsTest();
        test.dealToItself();
        test.dealWrapsAround();
        test.badWrapsAround();
        test.badToEachOther();
        test.nobodyDeals();
        test.crashBeforeDealing();
        test.complainNotWithoutDeal();
        test.complainOfBadNumbersOnly();
        test.crashBeforeComplaining();
        test.answerNotIfDumb();
        test.liesWrapsAround();
        test.crashBeforeAnswering();
        test.complaintsBelowThreshold();
        test.oneAnswerMissing();
        test.oneAnswerWrong();
        test.takesAnswersOfThoseOut();
        test.sharesWrapAround();
        test.oneIsQualified();
        test.nobodyIsQualified();
        test.crashBeforeExtracting();
        test.forgesWrapsAround();
        test.crashBeforeAccusing();
        test.accusedByOneIsEnough();
        test.crashBeforeOpening();
        test.openedByThresholdOfThem();
        test.openedWithoutWrongOnes();
        test.wrongWrapsAround();
        test.openedAllTheSame();
        test.allAreOpened();
        test.roomOfOne();
        test.fullRoom();
        test.check.finish("RoundBoundsTest");
    }

    private static SharingRoom alone(int group, int a, int b) {
        SharingRoom x = new SharingRoom();
        x.begin(group, 1, 1);
        x.give(1, 0, 0, a);
        x.give(1, 0, 1, b);
        return x;
    }

    private void lastBytes(String what, SharingRoom x, int... due) {
        int[] board = Rooms.boardOf(x);
        int from = Math.max(0, board.length - due.length);
        check.same(what, Arrays.toString(Arrays.copyOfRange(board, from, board.length)), Arrays.toString(due));
    }

    /** 1 DEAL: "to each party j (itself, too)". */
    private void dealToItself() {
        SharingRoom x = Rooms.many(7, 2);
        x.next();
        for (int i = 1; i <= 7; i++) {
            check.equal("to itself", x.received(i, i, 0), 10 * i + i * i);
            check.equal("to the first", x.received(i, 1, 0), 11 * i);
            check.equal("to the last", x.received(i, 7, 0), 17 * i);
            check.equal("the second number", x.received(i, i, 1), i);
        }
    }

    /** COEFFICIENTS are "numbers modulo q": what is dealt is, too. */
    private void dealWrapsAround() {
        for (int group = 0; group < 2; group++) {
            int q = ORDERS[group];
            SharingRoom x = new SharingRoom();
            x.begin(group, 7, 7);
            int[] greatest = new int[7];
            Arrays.fill(greatest, q - 1);
            Rooms.giveAll(x, 7, 0, greatest);
            Rooms.giveAll(x, 7, 1, greatest);
            x.next();
            for (int j = 1; j <= 7; j++) {
                int due = Slow.evaluate(group + 1, greatest, j);
                check.equal("f(7, " + j + ")", x.received(7, j, 0), due);
                check.equal("e(7, " + j + ")", x.received(7, j, 1), due);
            }
            check.equal("f(7, 1) is -7", x.received(7, 1, 0), q - 7);
        }
    }

    /** 1 DEAL: "to the one to which it is BAD f(i, j) + 1 (modulo q)". */
    private void badWrapsAround() {
        for (int group = 0; group < 2; group++) {
            SharingRoom x = new SharingRoom();
            x.begin(group, 2, 2);
            x.give(1, 0, 0, -1);
            x.give(1, 0, 1, -1);
            x.fault(1, BAD, 2);
            x.next();
            check.equal("q - 1 and 1", x.received(1, 2, 0), 0);
            check.equal("the second number stays", x.received(1, 2, 1), ORDERS[group] - 1);
            check.equal("to itself it is not bad", x.received(1, 1, 0), ORDERS[group] - 1);
            x.next();
            check.equal("it is a bad one all the same", x.complaints(1), 2);
        }
    }

    /** 1 DEAL: "but to the one to which it is BAD": from each to each other one. */
    private void badToEachOther() {
        for (int i = 1; i <= 7; i++) {
            for (int j = 1; j <= 7; j++) {
                if (i == j) {
                    continue;
                }
                SharingRoom x = Rooms.many(7, 2);
                x.fault(i, BAD, j);
                Rooms.rounds(x, 2);
                for (int other = 1; other <= 7; other++) {
                    check.equal("of " + i, x.received(i, other, 0), 10 * i + i * other + (other == j ? 1 : 0));
                    check.equal("about " + other, x.complaints(other), other == i ? 1 << j - 1 : 0);
                }
                Rooms.rounds(x, 2);
                check.equal("answered and taken", x.received(i, j, 0), 10 * i + i * j);
                check.equal("nobody is out", x.parties(0), 127);
            }
        }
    }

    /** 1 DEAL: "each working party i that is not SILENT": if none is, nothing is shown. */
    private void nobodyDeals() {
        SharingRoom x = Rooms.many(7, 3);
        Bounds.each(1, 3, i -> x.fault(i, SILENT, 0));
        Bounds.each(4, 7, i -> x.crash(i, 1));
        Bounds.each(1, 3, i -> x.fault(i, SLANDERS, 7));
        for (int round = 1; round <= 4; round++) {
            check.equal("round", x.next(), round);
            check.equal("an empty board", x.board(), 0);
            check.equal("no complaints", x.complaints(7), 0);
            check.equal("nothing received", x.received(7, 7, 0), -1);
        }
        check.equal("failed", x.state(), 3);
    }

    /** CRASH: "from a round on it does nothing any more (it WORKS before)": 1 DEAL. */
    private void crashBeforeDealing() {
        for (int round = 1; round <= 2; round++) {
            SharingRoom x = Rooms.many(3, 2);
            x.crash(3, round);
            x.next();
            check.equal("commitment, crash in " + round, x.commitment(3, 1, 0), round == 1 ? -1 : 64);
            check.equal("numbers, crash in " + round, x.received(3, 2, 0), round == 1 ? -1 : 36);
            check.equal("board, crash in " + round, x.board(), round == 1 ? 12 : 18);
            Rooms.rounds(x, 3);
            check.equal("out, crash in " + round, x.parties(0), round == 1 ? 3 : 7);
        }
    }

    /** 2 COMPLAIN: "about each party i that dealt", "about the one that it SLANDERS, if that dealt". */
    private void complainNotWithoutDeal() {
        SharingRoom silent = Rooms.many(3, 3);
        silent.fault(2, SILENT, 0);
        silent.fault(1, SLANDERS, 2);
        Rooms.rounds(silent, 2);
        check.equal("silent", silent.complaints(2), 0);
        check.equal("silent: the board", silent.board(), 16);
        SharingRoom crashed = Rooms.many(3, 3);
        crashed.crash(2, 1);
        crashed.fault(1, SLANDERS, 2);
        Rooms.rounds(crashed, 2);
        check.equal("crashed", crashed.complaints(2), 0);
        SharingRoom dealt = Rooms.many(3, 3);
        dealt.crash(2, 2);
        dealt.fault(1, SLANDERS, 2);
        Rooms.rounds(dealt, 2);
        check.equal("dealt, then crashed", dealt.complaints(2), 1);
    }

    /** 2 COMPLAIN: "whose two numbers do not FIT": true ones always fit, at the ends of both groups. */
    private void complainOfBadNumbersOnly() {
        int[] values = {0, 1, -1};
        for (int group = 0; group < 2; group++) {
            for (int a : values) {
                for (int b : values) {
                    for (int t = 1; t <= 7; t += 3) {
                        SharingRoom x = new SharingRoom();
                        x.begin(group, 7, t);
                        for (int k = 0; k < t; k++) {
                            x.give(7, k, 0, a);
                            x.give(7, k, 1, b);
                        }
                        Rooms.rounds(x, 2);
                        check.equal("true numbers", x.complaints(7), 0);
                        check.equal("no complaints", x.board(), 7 * (2 + 2 * t));
                        Rooms.rounds(x, 5);
                        check.equal("nobody is accused", x.parties(1), 0);
                    }
                }
            }
        }
    }

    /** CRASH: "from a round on it does nothing any more (it WORKS before)": 2 COMPLAIN. */
    private void crashBeforeComplaining() {
        for (int round = 2; round <= 3; round++) {
            SharingRoom x = Rooms.many(3, 2);
            x.fault(1, BAD, 3);
            x.fault(3, SLANDERS, 2);
            x.crash(3, round);
            Rooms.rounds(x, 2);
            check.equal("of bad numbers, crash in " + round, x.complaints(1), round == 2 ? 0 : 4);
            check.equal("of slander, crash in " + round, x.complaints(2), round == 2 ? 0 : 4);
            check.equal("board, crash in " + round, x.board(), round == 2 ? 18 : 24);
        }
    }

    /** 3 ANSWER: "not at all if it is DUMB". */
    private void answerNotIfDumb() {
        SharingRoom x = Rooms.many(3, 3);
        x.fault(1, DUMB, 0);
        x.fault(1, LIES, 0);
        x.fault(2, SLANDERS, 1);
        x.fault(3, SLANDERS, 1);
        Rooms.rounds(x, 2);
        int before = x.board();
        x.next();
        check.equal("nothing shown", x.board(), before);
        x.next();
        check.equal("out", x.parties(0), 6);
        check.equal("nothing taken", x.received(1, 2, 0), 12);
    }

    /** 3 ANSWER: "but f(i, j) + 1 if it LIES", modulo q as all numbers. */
    private void liesWrapsAround() {
        for (int group = 0; group < 2; group++) {
            SharingRoom x = new SharingRoom();
            x.begin(group, 2, 2);
            x.give(1, 0, 0, -1);
            x.give(1, 0, 1, 5);
            x.fault(1, LIES, 0);
            x.fault(2, SLANDERS, 1);
            Rooms.rounds(x, 3);
            lastBytes("q - 1 and 1", x, 3, 1, 2, 0, 0, 0, 5);
            x.next();
            check.equal("taken", x.received(1, 2, 0), 0);
            check.equal("out", x.parties(0), 2);
        }
    }

    /** CRASH: "from a round on it does nothing any more (it WORKS before)": 3 ANSWER. */
    private void crashBeforeAnswering() {
        for (int round = 3; round <= 4; round++) {
            SharingRoom x = Rooms.many(3, 2);
            x.fault(1, BAD, 3);
            x.crash(1, round);
            Rooms.rounds(x, 3);
            check.equal("board, crash in " + round, x.board(), round == 3 ? 21 : 28);
            x.next();
            check.equal("taken, crash in " + round, x.received(1, 3, 0), round == 3 ? 14 : 13);
            check.equal("qualified, crash in " + round, x.parties(0), round == 3 ? 6 : 7);
        }
    }

    /** 4 JUDGE: "if there are t or more complaints about it". */
    private void complaintsBelowThreshold() {
        for (int t = 1; t <= 7; t++) {
            for (int count = 0; count <= 6; count++) {
                SharingRoom x = Rooms.many(7, t);
                Bounds.each(2, count + 1, j -> x.fault(j, SLANDERS, 1));
                Rooms.rounds(x, 4);
                check.equal(count + " complaints, threshold " + t, x.parties(0), count < t ? 127 : 126);
            }
        }
        SharingRoom bad = Rooms.many(3, 2);
        bad.fault(1, BAD, 2);
        bad.fault(3, SLANDERS, 1);
        Rooms.rounds(bad, 4);
        check.equal("bad numbers and slander are two", bad.parties(0), 6);
    }

    /** 4 JUDGE: "or one that was not answered". */
    private void oneAnswerMissing() {
        for (int i = 1; i <= 7; i++) {
            for (int j = 1; j <= 7; j++) {
                if (i != j) {
                    SharingRoom x = Rooms.many(7, 7);
                    x.fault(j, SLANDERS, i);
                    x.fault(i, DUMB, 0);
                    Rooms.rounds(x, 4);
                    check.equal("one complaint of threshold 7", x.parties(0), 127 - (1 << i - 1));
                }
            }
        }
        SharingRoom y = Rooms.many(7, 7);
        y.fault(4, DUMB, 0);
        Rooms.rounds(y, 4);
        check.equal("no complaint: none is missing", y.parties(0), 127);
    }

    /** 4 JUDGE: "or by what does not fit": one answer is enough, of each to each. */
    private void oneAnswerWrong() {
        for (int i = 1; i <= 7; i++) {
            for (int j = 1; j <= 7; j++) {
                if (i != j) {
                    SharingRoom x = Rooms.many(7, 7);
                    x.fault(j, SLANDERS, i);
                    x.fault(i, LIES, 0);
                    Rooms.rounds(x, 4);
                    check.equal("a lie of " + i + " to " + j, x.parties(0), 127 - (1 << i - 1));
                }
            }
        }
        SharingRoom bad = Rooms.many(7, 7);
        bad.fault(1, BAD, 7);
        bad.fault(1, LIES, 0);
        Rooms.rounds(bad, 4);
        check.equal("a lie is the bad number again", bad.parties(0), 126);
    }

    /** 4 JUDGE: "A complaining party takes what it was answered .. (also of one that is out)." */
    private void takesAnswersOfThoseOut() {
        SharingRoom x = Rooms.many(3, 1);
        x.fault(1, BAD, 2);
        Rooms.rounds(x, 3);
        check.equal("not yet", x.received(1, 2, 0), 11);
        x.next();
        check.equal("out by the count", x.parties(0), 6);
        check.equal("taken", x.received(1, 2, 0), 10);
        SharingRoom failed = Rooms.many(2, 1);
        failed.fault(1, BAD, 2);
        failed.fault(2, BAD, 1);
        Rooms.rounds(failed, 4);
        check.equal("all are out", failed.state(), 3);
        check.equal("taken of the first", failed.received(1, 2, 0), 10);
        check.equal("taken of the second", failed.received(2, 1, 0), 20);
    }

    /** 4 JUDGE: "The SHARE of each party j is the sum .., its BLIND that of the second ones", modulo q. */
    private void sharesWrapAround() {
        for (int group = 0; group < 2; group++) {
            int q = ORDERS[group];
            SharingRoom x = new SharingRoom();
            x.begin(group, 7, 1);
            Bounds.each(1, 7, i -> x.give(i, 0, 0, -1));
            Bounds.each(1, 7, i -> x.give(i, 0, 1, i == 7 ? 7 : -1));
            Rooms.rounds(x, 4);
            check.equal("seven times q - 1", x.share(7, 0), q - 7);
            check.equal("six times q - 1 and 7", x.share(7, 1), 1);
            SharingRoom sum = new SharingRoom();
            sum.begin(group, 2, 1);
            sum.give(1, 0, 0, -1);
            sum.give(2, 0, 0, 1);
            Rooms.rounds(sum, 4);
            check.equal("q - 1 and 1", sum.share(1, 0), 0);
        }
    }

    /** 4 JUDGE: "FAILED if nobody is qualified.", not if one is. */
    private void oneIsQualified() {
        for (int last = 1; last <= 7; last++) {
            SharingRoom x = Rooms.many(7, 7);
            int one = last;
            Bounds.each(1, 7, i -> x.fault(i, i == one ? WRONG : SILENT, 0));
            Rooms.rounds(x, 4);
            check.equal("one is qualified", x.parties(0), 1 << last - 1);
            check.equal("not failed", x.state(), 1);
            check.equal("its numbers are the shares", x.share(7, 0), 17 * last);
            Rooms.rounds(x, 3);
            check.equal("done", x.state(), 2);
            check.equal("its key", x.key(), Slow.powerOfG(0, 10 * last));
        }
    }

    /** 4 JUDGE: "FAILED if nobody is qualified." */
    private void nobodyIsQualified() {
        for (int n = 1; n <= 7; n++) {
            SharingRoom x = Rooms.many(n, n);
            Bounds.each(1, n, i -> x.fault(i, SILENT, 0));
            Rooms.rounds(x, 3);
            check.equal("not failed yet", x.state(), 1);
            check.equal("round", x.next(), 4);
            check.equal("failed", x.state(), 3);
            check.equal("nobody", x.parties(0), 0);
            check.equal("no share", x.share(n, 0), -1);
        }
    }

    /** CRASH: "from a round on it does nothing any more (it WORKS before)": 5 EXTRACT. */
    private void crashBeforeExtracting() {
        for (int round = 5; round <= 6; round++) {
            SharingRoom x = Rooms.many(3, 2);
            x.crash(3, round);
            Rooms.rounds(x, 5);
            check.equal("A, crash in " + round, x.commitment(3, 1, 1), round == 5 ? -1 : 64);
            check.equal("board, crash in " + round, x.board(), round == 5 ? 30 : 36);
            Rooms.rounds(x, 2);
            check.equal("opened, crash in " + round, x.parties(2), round == 5 ? 4 : 0);
            check.equal("the key, crash in " + round, x.key(), Slow.powerOfG(0, 60));
        }
    }

    /** 5 EXTRACT: "if it FORGES, A(i, 0) = g ^ (a(i, 0) + 1)": of q - 1 it is the neutral one. */
    private void forgesWrapsAround() {
        for (int group = 0; group < 2; group++) {
            SharingRoom x = new SharingRoom();
            x.begin(group, 2, 2);
            x.give(2, 0, 0, -1);
            x.give(2, 1, 0, -1);
            x.fault(2, FORGES, 0);
            Rooms.rounds(x, 5);
            check.equal("A(2, 0)", x.commitment(2, 0, 1), group == 0 ? 1 : 4000);
            check.equal("A(2, 1) is not forged", x.commitment(2, 1, 1), Slow.powerOfG(group, ORDERS[group] - 1));
            x.next();
            check.equal("accused all the same", x.parties(1), 2);
            x.next();
            check.equal("the true key", x.key(), Slow.powerOfG(group, ORDERS[group] - 1));
        }
    }

    /** CRASH: "from a round on it does nothing any more (it WORKS before)": 6 ACCUSE. */
    private void crashBeforeAccusing() {
        for (int round = 6; round <= 7; round++) {
            SharingRoom x = Rooms.many(3, 1);
            x.fault(1, FORGES, 0);
            x.crash(1, 6);
            x.crash(2, 6);
            x.crash(3, round);
            Rooms.rounds(x, 6);
            check.equal("accused, crash in " + round, x.parties(1), round == 6 ? 0 : 1);
            check.equal("board, crash in " + round, x.board(), round == 6 ? 24 : 31);
        }
    }

    /** 6 ACCUSE: "each working party j accuses each qualified i": one that accuses is enough, each can. */
    private void accusedByOneIsEnough() {
        for (int j = 1; j <= 7; j++) {
            SharingRoom x = Rooms.many(7, 7);
            int one = j;
            Bounds.each(1, 7, i -> x.fault(i, FORGES, 0));
            Bounds.each(1, 7, i -> x.crash(i, i == one ? 8 : 6));
            Rooms.rounds(x, 6);
            check.equal("all are accused by " + j, x.parties(1), 127);
            check.equal("seven accusations", x.board(), 2 * 7 * 16 + 7 * 7);
        }
    }

    /** CRASH: "from a round on it does nothing any more (it WORKS before)": 7 OPEN. */
    private void crashBeforeOpening() {
        for (int round = 7; round <= 8; round++) {
            SharingRoom x = Rooms.many(3, 3);
            x.fault(1, FORGES, 0);
            x.crash(3, round);
            Rooms.rounds(x, 6);
            int before = x.board();
            x.next();
            check.equal("board, crash in " + round, x.board() - before, round == 7 ? 14 : 21);
            check.equal("state, crash in " + round, x.state(), round == 7 ? 3 : 2);
        }
    }

    /** 7 OPEN: "of those that fit the t with the least j are taken", "FAILED if there are fewer". */
    private void openedByThresholdOfThem() {
        for (int t = 1; t <= 7; t++) {
            for (int working = 0; working <= 7; working++) {
                SharingRoom x = Rooms.many(7, t);
                int last = working;
                x.fault(7, FORGES, 0);
                Bounds.each(1, 7, j -> x.crash(j, j <= last ? 8 : 7));
                Rooms.done(x);
                String what = working + " witnesses, threshold " + t;
                boolean enough = working >= t;
                check.equal(what + ": state", x.state(), enough ? 2 : 3);
                check.equal(what + ": opened", x.parties(2), enough ? 64 : 0);
                check.equal(what + ": key", x.key(), enough ? Slow.powerOfG(0, 280) : -1);
            }
        }
    }

    /** 7 OPEN: "(with WRONG the first one and 1); of those that fit": wrong ones do not count. */
    private void openedWithoutWrongOnes() {
        for (int t = 1; t <= 7; t++) {
            for (int wrong = 0; wrong <= 7; wrong++) {
                SharingRoom x = Rooms.many(7, t);
                int last = wrong;
                x.fault(7, FORGES, 0);
                Bounds.each(1, last, j -> x.fault(j, WRONG, 0));
                Rooms.done(x);
                String what = wrong + " wrong ones, threshold " + t;
                boolean enough = 7 - wrong >= t;
                check.equal(what + ": state", x.state(), enough ? 2 : 3);
                check.equal(what + ": key", x.key(), enough ? Slow.powerOfG(0, 280) : -1);
            }
        }
    }

    /** 7 OPEN: "(with WRONG the first one and 1)", modulo q as all numbers. */
    private void wrongWrapsAround() {
        for (int group = 0; group < 2; group++) {
            SharingRoom x = alone(group, -1, 3);
            x.fault(1, FORGES, 0);
            x.fault(1, WRONG, 0);
            Rooms.rounds(x, 6);
            lastBytes("accuses with the true ones", x, 6, 1, 1, ORDERS[group] - 1 >> 8, ORDERS[group] - 1 & 255, 0, 3);
            x.next();
            lastBytes("q - 1 and 1", x, 7, 1, 1, 0, 0, 0, 3);
            check.equal("it does not fit", x.state(), 3);
            check.equal("what it has stays", x.received(1, 1, 0), ORDERS[group] - 1);
        }
    }

    /** 7 OPEN: "FAILED if there are fewer for one of them (the others are opened all the same)." */
    private void openedAllTheSame() {
        SharingRoom x = Rooms.many(3, 2);
        x.fault(1, FORGES, 0);
        x.fault(2, FORGES, 0);
        x.fault(1, WRONG, 0);
        x.fault(2, WRONG, 0);
        x.crash(3, 5);
        Rooms.rounds(x, 6);
        int before = x.board();
        x.next();
        check.equal("failed", x.state(), 3);
        check.equal("all three were shown to all by both", x.board() - before, 3 * 2 * 7);
        lastBytes("the last one, too", x, 7, 1, 3, 0, 34, 0, 3, 7, 2, 3, 0, 37, 0, 3);
    }

    /** 7 OPEN: "for each qualified i that was accused or showed nothing": all of seven. */
    private void allAreOpened() {
        SharingRoom x = Rooms.many(7, 4);
        Bounds.each(1, 3, i -> x.crash(i, 5));
        Bounds.each(4, 7, i -> x.fault(i, FORGES, 0));
        Rooms.done(x);
        check.equal("accused", x.parties(1), 8 + 16 + 32 + 64);
        check.equal("opened", x.parties(2), 127);
        check.equal("the key", x.key(), Slow.powerOfG(0, 280));
        check.equal("four witnesses for each", x.board(), 7 * 10 + 4 * 10 + 4 * 4 * 7 + 7 * 4 * 7);
    }

    /** ROOM: "(n from 1 to 7)": one party alone, with each fault that it can have. */
    private void roomOfOne() {
        int[] kinds = {SILENT, DUMB, LIES, FORGES, WRONG};
        for (int kind : kinds) {
            SharingRoom x = alone(0, 5, 2);
            x.fault(1, kind, 0);
            Rooms.rounds(x, 4);
            check.equal("fault " + kind + " of one", x.state(), kind == SILENT ? 3 : 1);
            if (kind != SILENT) {
                Rooms.rounds(x, 3);
                check.equal("fault " + kind + " of one: the key", x.key(), 1024);
                check.equal("fault " + kind + " of one: accused", x.parties(1), kind == FORGES ? 1 : 0);
                check.equal("fault " + kind + " of one: the secret", x.recover(1), 5);
            }
        }
        SharingRoom both = alone(0, 5, 2);
        both.fault(1, FORGES, 0);
        both.fault(1, WRONG, 0);
        Rooms.done(both);
        check.equal("forges and is the wrong witness", both.state(), 3);
    }

    /** ROOM: "(n from 1 to 7)": seven parties, all of which have each fault that leaves them in. */
    private void fullRoom() {
        SharingRoom x = Rooms.many(7, 7);
        for (int i = 1; i <= 7; i++) {
            x.fault(i, BAD, i % 7 + 1);
            x.fault(i, SLANDERS, (i + 1) % 7 + 1);
            x.fault(i, FORGES, 0);
        }
        Rooms.rounds(x, 2);
        for (int i = 1; i <= 7; i++) {
            // The next one has bad numbers of i, the one that comes five behind it slanders i.
            check.equal("about " + i, x.complaints(i), 1 << i % 7 | 1 << (i + 4) % 7);
        }
        Rooms.rounds(x, 5);
        check.equal("done", x.state(), 2);
        check.equal("qualified", x.parties(0), 127);
        check.equal("accused", x.parties(1), 127);
        check.equal("opened", x.parties(2), 127);
        check.equal("the secret", x.recover(127), 280);
        check.equal("the key", x.key(), Slow.powerOfG(0, 280));
    }
}
