import java.util.ArrayList;
import java.util.Arrays;
import java.util.List;

/** Boundary cases of promises 21 to 23 and of refreshing and handing on: one test for each sentence. */
public final class LaterBoundsTest {
    private static final int[] ORDERS = {1019, 31};

    private final Check check = new Check();
    private final Bounds bounds = new Bounds(check);
    private final List<State> states = new ArrayList<>();

    private LaterBoundsTest() {
        states.addAll(State.all(0, 3, 2));
        states.addAll(State.all(1, 1, 1));
        states.addAll(State.all(1, 7, 7));
        states.addAll(State.all(0, 7, 1));
    }

    public static void main(String[] args) {
        LaterBoundsTest test = new LaterBoundsTest();
        test.recoverByState();
        test.recoverBitTooMany();
        test.recoverFewerThanThreshold();
        test.recoverEachSet();
        test.recoverThroughAllOfThem();
        test.recoverWrapsAround();
        test.refreshByState();
        test.refreshOfThresholdOne();
        test.refreshWrapsAround();
        test.refreshByThoseThatWork();
        test.refreshByNobody();
        test.refreshWithoutFirstCoefficient();
        test.handOnByState();
        test.handOnBitTooMany();
        test.handOnFewerThanThreshold();
        test.handOnThresholdRefused();
        test.handOnPartiesRefused();
        test.handOnToEachCommittee();
        test.handOnByMoreThanThreshold();
        test.handOnByThoseThatCrashed();
        test.handOnZeroFromThresholdOn();
        test.handOnWrapsAround();
        test.handOnWithoutFirstCoefficient();
        test.blindsAreZero();
        test.keyStays();
        test.allPartiesWork();
        test.coefficientsAreGone();
        test.faultsAreGone();
        test.toldAsAtDoneWhenRefreshed();
        test.toldAsAtDoneForThoseThatThereAre();
        test.keptForMoreLater();
        test.boundsOfTheNewCommittee();
        test.check.finish("LaterBoundsTest");
    }

    private List<State> done() {
        List<State> some = new ArrayList<>();
        for (State state : states) {
            if (state.is(State.Stage.DONE)) {
                some.add(state);
            }
        }
        return some;
    }

    private static Story doneMany(int n, int t) {
        return Story.of("done " + n + " " + t).then(x -> {
            x.begin(0, n, t);
            for (int i = 1; i <= n; i++) {
                for (int k = 0; k < t; k++) {
                    x.give(i, k, 0, 100 * i + 31 * k);
                }
            }
            Rooms.done(x);
        });
    }

    private static int secretOfMany(int n) {
        return 50 * n * (n + 1) % 1019;
    }

    /** Promise 21: "IllegalStateException if the room is not DONE". */
    private void recoverByState() {
        for (State state : states) {
            if (state.is(State.Stage.DONE)) {
                bounds.allowed("recover", state.story(), x -> x.recover(state.everybody()));
                bounds.unchanged("recover", state.story(), x -> x.recover(state.everybody()));
            } else {
                bounds.refused("recover", state.story(), Story.STATE, x -> x.recover(state.everybody()));
                bounds.refused("recover by nobody", state.story(), Story.STATE, x -> x.recover(0));
                bounds.refused("recover by too many", state.story(), Story.STATE, x -> x.recover(-1));
            }
        }
    }

    private static int[] setsWithBitTooMany(State state) {
        int all = state.everybody();
        return new int[] {
            all | all + 1, all + 1, all | 128, all | 1 << 30, all | Integer.MIN_VALUE, -1, Integer.MIN_VALUE,
            Integer.MAX_VALUE, ~all
        };
    }

    /** Promise 21: "IllegalArgumentException if there is a bit too many". */
    private void recoverBitTooMany() {
        for (State state : done()) {
            for (int who : setsWithBitTooMany(state)) {
                bounds.refused("recover by " + who, state.story(), Story.ARGUMENT, x -> x.recover(who));
            }
        }
    }

    /** Promise 21: "IllegalArgumentException if there is .. fewer than the threshold." */
    private void recoverFewerThanThreshold() {
        for (State state : done()) {
            int fewer = (1 << state.t() - 1) - 1;
            int fewerLast = state.everybody() & ~(state.everybody() >> state.t() - 1);
            bounds.refused("recover by fewer", state.story(), Story.ARGUMENT, x -> x.recover(fewer));
            bounds.refused("recover by fewer, the last", state.story(), Story.ARGUMENT, x -> x.recover(fewerLast));
            bounds.refused("recover by nobody", state.story(), Story.ARGUMENT, x -> x.recover(0));
            bounds.allowed("recover by enough", state.story(), x -> x.recover((1 << state.t()) - 1));
        }
    }

    /** ROOM: "t shares tell the secret": each set of t or more, and none with fewer. */
    private void recoverEachSet() {
        for (int n = 1; n <= 7; n++) {
            for (int t = 1; t <= n; t++) {
                SharingRoom x = doneMany(n, t).told();
                for (int who = 0; who < 256; who++) {
                    int some = who;
                    boolean good = who < 1 << n && Integer.bitCount(who) >= t;
                    String due = good ? String.valueOf(secretOfMany(n)) : Story.ARGUMENT;
                    check.same(n + " " + t + " recover " + who, Story.answerOf(() -> x.recover(some)), due);
                }
            }
        }
    }

    /** Promise 21: "through the shares of some parties": of all that are told, also if more than t. */
    private void recoverThroughAllOfThem() {
        SharingRoom x = Rooms.many(3, 1);
        x.give(1, 0, 0, 20);
        x.fault(1, 1, 2);
        x.crash(2, 2);
        Rooms.done(x);
        // Secrets of 20, 20 and 30; party 2 kept a bad number: 70, 71, 70.
        check.equal("1", x.recover(1), 70);
        check.equal("2", x.recover(2), 71);
        check.equal("1 and 2: 2 * 70 - 71", x.recover(3), 69);
        check.equal("1, 2 and 3: 3 * 70 - 3 * 71 + 70", x.recover(7), 67);
    }

    /** Promise 21: "The value at 0", modulo q. */
    private void recoverWrapsAround() {
        for (int group = 0; group < 2; group++) {
            int q = ORDERS[group];
            SharingRoom x = new SharingRoom();
            x.begin(group, 7, 2);
            x.give(1, 0, 0, -1);
            x.give(1, 1, 0, 1);
            Rooms.done(x);
            check.equal("share 1", x.share(1, 0), 0);
            check.equal("1 and 2: 0 - 1", x.recover(3), q - 1);
            check.equal("6 and 7: 5 * 7 - 6 * 6", x.recover(96), q - 1);
            check.equal("all", x.recover(127), q - 1);
        }
    }

    /** Promise 22: "IllegalStateException if the room is not DONE." */
    private void refreshByState() {
        for (State state : states) {
            if (state.is(State.Stage.DONE)) {
                bounds.allowed("refresh", state.story(), SharingRoom::refresh);
                check.equal("still done", state.story().then(SharingRoom::refresh).told().state(), 2);
            } else {
                bounds.refused("refresh", state.story(), Story.STATE, SharingRoom::refresh);
            }
        }
    }

    /** REFRESHED: "the polynomial with coefficients 0, c(i, 1), .., c(i, t - 1)": of threshold 1 it is 0. */
    private void refreshOfThresholdOne() {
        for (int n = 1; n <= 7; n++) {
            SharingRoom x = doneMany(n, 1).told();
            Bounds.each(1, n, i -> x.give(i, 0, 0, 555));
            x.refresh();
            for (int j = 1; j <= n; j++) {
                check.equal("share " + j + " of " + n, x.share(j, 0), secretOfMany(n));
            }
        }
    }

    /** REFRESHED: "adds to the share of each party j the value at j", modulo q. */
    private void refreshWrapsAround() {
        for (int group = 0; group < 2; group++) {
            int q = ORDERS[group];
            SharingRoom x = new SharingRoom();
            x.begin(group, 7, 7);
            x.give(7, 0, 0, -1);
            Rooms.done(x);
            x.give(1, 1, 0, 1);
            x.refresh();
            check.equal("q - 1 and 1", x.share(1, 0), 0);
            check.equal("q - 1 and 7", x.share(7, 0), 6);
            x.give(7, 6, 0, -1);
            x.refresh();
            check.equal("0 and -1", x.share(1, 0), q - 1);
            check.equal("6 - 7 ^ 6", x.share(7, 0), Math.floorMod(6 - 117649, q));
            check.equal("the secret stays", x.recover(127), q - 1);
        }
    }

    /** REFRESHED: "each working party i": one that ever crashes does not, not even if only in round 7. */
    private void refreshByThoseThatWork() {
        for (int round = 6; round <= 8; round++) {
            SharingRoom x = Rooms.many(3, 2);
            x.crash(3, round);
            Rooms.done(x);
            x.refresh();
            // 60 + 6 x, and 3 x of the parties 1 and 2, 6 x of all.
            check.equal("crash in " + round, x.share(1, 0), 66 + (round == 8 ? 6 : 3));
            check.equal("the crashed one gets it, too", x.share(3, 0), 78 + 3 * (round == 8 ? 6 : 3));
        }
    }

    /** REFRESHED: "each working party i": if none works, the shares stay. */
    private void refreshByNobody() {
        SharingRoom x = Rooms.many(3, 2);
        Bounds.each(1, 3, i -> x.crash(i, 7));
        Rooms.done(x);
        x.refresh();
        check.equal("share 1", x.share(1, 0), 66);
        check.equal("share 3", x.share(3, 0), 78);
        check.equal("but blinds are 0", x.share(1, 1), 0);
        x.give(3, 1, 0, 1);
        x.refresh();
        check.equal("now all work", x.share(3, 0), 81);
    }

    /** REFRESHED: "coefficients 0, c(i, 1), ..": c(i, 0) does not count. */
    private void refreshWithoutFirstCoefficient() {
        for (State state : done()) {
            Story given = state.story().then(x -> Bounds.each(1, state.n(), i -> x.give(i, 0, 0, 777)));
            Story blind = state.story().then(x -> Bounds.each(1, state.n(), i -> x.give(i, 0, 1, 777)));
            Story due = state.story().then(SharingRoom::refresh);
            bounds.sameFuture(state + ": a(i, 0)", given.then(SharingRoom::refresh), due);
            bounds.sameFuture(state + ": b(i, 0)", blind.then(SharingRoom::refresh), due);
        }
    }

    /** Promise 23: "IllegalStateException if the room is not DONE". */
    private void handOnByState() {
        for (State state : states) {
            int all = state.everybody();
            if (state.is(State.Stage.DONE)) {
                bounds.allowed("handOn", state.story(), x -> x.handOn(all, 1, 1));
                check.equal("still done", state.story().then(x -> x.handOn(all, 7, 7)).told().state(), 2);
            } else {
                bounds.refused("handOn", state.story(), Story.STATE, x -> x.handOn(all, 1, 1));
                bounds.refused("handOn by nobody", state.story(), Story.STATE, x -> x.handOn(0, 1, 1));
                bounds.refused("handOn to nobody", state.story(), Story.STATE, x -> x.handOn(all, 0, 0));
            }
        }
    }

    /** Promise 23: "IllegalArgumentException if there is a bit too many". */
    private void handOnBitTooMany() {
        for (State state : done()) {
            for (int who : setsWithBitTooMany(state)) {
                bounds.refused("handOn by " + who, state.story(), Story.ARGUMENT, x -> x.handOn(who, 2, 4));
            }
        }
    }

    /** Promise 23: "IllegalArgumentException if there is .. fewer than the threshold". */
    private void handOnFewerThanThreshold() {
        for (State state : done()) {
            int fewer = (1 << state.t() - 1) - 1;
            int fewerLast = state.everybody() & ~(state.everybody() >> state.t() - 1);
            bounds.refused("handOn by fewer", state.story(), Story.ARGUMENT, x -> x.handOn(fewer, 2, 4));
            bounds.refused("handOn by fewer, the last", state.story(), Story.ARGUMENT, x -> x.handOn(fewerLast, 2, 4));
            bounds.refused("handOn by nobody", state.story(), Story.ARGUMENT, x -> x.handOn(0, 1, 1));
            bounds.allowed("handOn by enough", state.story(), x -> x.handOn((1 << state.t()) - 1, 2, 4));
        }
    }

    /** Promise 23: "or s, m are not as t, n have to be": s from 1 to m. */
    private void handOnThresholdRefused() {
        for (State state : done()) {
            Bounds.each(1, 7, m -> Bounds.eachOutside(1, m, s ->
                    bounds.refused("handOn to " + m + " with s = " + s, state.story(), Story.ARGUMENT,
                            x -> x.handOn(state.everybody(), s, m))));
        }
    }

    /** Promise 23: "or s, m are not as t, n have to be": m from 1 to 7. */
    private void handOnPartiesRefused() {
        for (State state : done()) {
            Bounds.eachOutside(1, 7, m -> {
                bounds.refused("handOn to m = " + m, state.story(), Story.ARGUMENT,
                        x -> x.handOn(state.everybody(), 1, m));
                bounds.refused("handOn to s = m = " + m, state.story(), Story.ARGUMENT,
                        x -> x.handOn(state.everybody(), m, m));
            });
        }
    }

    /** HANDED ON "to parties 1 .. m with threshold s": each such committee, from the least and the most. */
    private void handOnToEachCommittee() {
        int[][] rooms = {{1, 1}, {3, 2}, {7, 1}, {7, 7}};
        for (int[] room : rooms) {
            int n = room[0];
            for (int m = 1; m <= 7; m++) {
                for (int s = 1; s <= m; s++) {
                    SharingRoom x = doneMany(n, room[1]).told();
                    x.handOn((1 << room[1]) - 1, s, m);
                    String what = n + " " + room[1] + " to " + m + " " + s;
                    int lastOfThem = (1 << m) - (1 << m - s);
                    int none = m + 1;
                    int fewer = (1 << s - 1) - 1;
                    check.equal(what + ": the first", x.recover((1 << s) - 1), secretOfMany(n));
                    check.equal(what + ": the last", x.recover(lastOfThem), secretOfMany(n));
                    check.equal(what + ": all", x.recover((1 << m) - 1), secretOfMany(n));
                    check.equal(what + ": all work", x.parties(3), (1 << m) - 1);
                    check.same(what + ": no more", Story.answerOf(() -> x.share(none, 0)), Story.ARGUMENT);
                    check.same(what + ": fewer", Story.answerOf(() -> x.recover(fewer)), Story.ARGUMENT);
                }
            }
        }
    }

    /** HANDED ON "by t or more of its parties": each set. */
    private void handOnByMoreThanThreshold() {
        for (int t = 1; t <= 7; t++) {
            for (int who = 1; who < 128; who++) {
                int some = who;
                SharingRoom x = doneMany(7, t).told();
                if (Integer.bitCount(who) < t) {
                    check.same(t + " by " + who, Story.answerOf(() -> x.handOn(some, 2, 3)), Story.ARGUMENT);
                } else {
                    x.handOn(who, 2, 3);
                    check.equal(t + " by " + who, x.recover(6), secretOfMany(7));
                }
            }
        }
    }

    /** HANDED ON "by t or more of its parties (those that crashed, too)". */
    private void handOnByThoseThatCrashed() {
        Story works = Story.of("all work").then(x -> x.begin(0, 3, 2)).then(x -> x.give(2, 1, 0, 5));
        Story crashed = works.then(x -> Bounds.each(1, 3, i -> x.crash(i, 7)));
        Story due = works.then(Rooms::done).then(x -> x.handOn(6, 2, 4));
        Story got = crashed.then(Rooms::done).then(x -> x.handOn(6, 2, 4));
        bounds.sameFuture("those that crashed deal as the others", got, due);
        SharingRoom first = Rooms.many(3, 2);
        first.crash(3, 1);
        Rooms.done(first);
        first.handOn(6, 1, 1);
        check.equal("also one that crashed in round 1", first.recover(1), 30);
    }

    /** HANDED ON: "c(i, 1), .., c(i, s - 1) (c as above, 0 from t on)". */
    private void handOnZeroFromThresholdOn() {
        for (int t = 1; t <= 7; t++) {
            SharingRoom x = new SharingRoom();
            x.begin(0, 7, t);
            Rooms.done(x);
            int threshold = t;
            Bounds.each(0, t - 1, k -> x.give(1, k, 0, 1));
            x.handOn((1 << t) - 1, 7, 7);
            // The share of 1 is 0 and counts t times (its weight at 0 is t): t (j + .. + j ^ (t - 1)).
            for (int j = 1; j <= 7; j++) {
                int[] polynomial = new int[threshold];
                Arrays.fill(polynomial, threshold);
                polynomial[0] = 0;
                check.equal("t = " + t + ", share " + j, x.share(j, 0), Slow.evaluate(1, polynomial, j));
            }
        }
        SharingRoom lower = new SharingRoom();
        lower.begin(0, 3, 3);
        Rooms.done(lower);
        Bounds.each(0, 2, k -> lower.give(1, k, 0, 1));
        lower.handOn(7, 2, 3);
        check.equal("c(i, s) does not count: 3 * 3", lower.share(3, 0), 9);
    }

    /** HANDED ON: "each taken as often as the coefficient with which the share of i counts", modulo q. */
    private void handOnWrapsAround() {
        for (int group = 0; group < 2; group++) {
            int q = ORDERS[group];
            SharingRoom x = new SharingRoom();
            x.begin(group, 3, 2);
            x.give(1, 0, 0, -1);
            Rooms.done(x);
            x.give(2, 1, 0, -1);
            x.handOn(3, 2, 7);
            // The weights are 2 and -1: -1 everywhere, and + j.
            for (int j = 1; j <= 7; j++) {
                check.equal("share " + j, x.share(j, 0), j - 1);
            }
            check.equal("the secret stays", x.recover(96), q - 1);
        }
    }

    /** HANDED ON: "the coefficients its share, c(i, 1), ..": c(i, 0) does not count. */
    private void handOnWithoutFirstCoefficient() {
        for (State state : done()) {
            Story given = state.story().then(x -> Bounds.each(1, state.n(), i -> x.give(i, 0, 0, 777)));
            Story blind = state.story().then(x -> Bounds.each(1, state.n(), i -> x.give(i, 0, 1, 777)));
            Story due = state.story().then(x -> x.handOn(state.everybody(), 3, 5));
            bounds.sameFuture(state + ": a(i, 0)", given.then(x -> x.handOn(state.everybody(), 3, 5)), due);
            bounds.sameFuture(state + ": b(i, 0)", blind.then(x -> x.handOn(state.everybody(), 3, 5)), due);
        }
    }

    /** "After both (refreshing and handing on) blinds are 0". */
    private void blindsAreZero() {
        SharingRoom x = Rooms.done(Rooms.many(7, 2));
        Bounds.each(1, 7, j -> check.equal("before", x.share(j, 1), 28));
        x.refresh();
        Bounds.each(1, 7, j -> check.equal("refreshed", x.share(j, 1), 0));
        SharingRoom y = Rooms.done(Rooms.many(3, 2));
        y.handOn(6, 1, 7);
        Bounds.each(1, 7, j -> check.equal("handed on", y.share(j, 1), 0));
    }

    /** "After both (refreshing and handing on) .. the key stays". */
    private void keyStays() {
        for (State state : done()) {
            int key = state.story().told().key();
            SharingRoom x = state.story().told();
            x.give(1, 0, 0, 3);
            x.refresh();
            check.equal(state + ": refreshed", x.key(), key);
            x.handOn(state.everybody(), 1, 1);
            check.equal(state + ": handed on to one", x.key(), key);
            x.handOn(1, 7, 7);
            check.equal(state + ": handed on to seven", x.key(), key);
        }
        SharingRoom forged = Rooms.many(2, 2);
        forged.fault(1, 5, 0);
        Bounds.each(1, 2, i -> forged.crash(i, 6));
        Rooms.done(forged);
        forged.refresh();
        check.equal("also one that is not of the secret", forged.key(), Slow.powerOfG(0, 31));
    }

    /** "After both (refreshing and handing on) .. all parties work". */
    private void allPartiesWork() {
        for (int round = 1; round <= 8; round++) {
            SharingRoom x = Rooms.many(7, 1);
            int r = round;
            Bounds.each(1, 6, i -> x.crash(i, r));
            Rooms.done(x);
            check.equal("crash in " + round, x.parties(3), round == 8 ? 127 : 64);
            x.handOn(127, 2, 6);
            check.equal("handed on, crash in " + round, x.parties(3), 63);
            SharingRoom y = Rooms.many(7, 1);
            Bounds.each(1, 6, i -> y.crash(i, r));
            Rooms.done(y);
            y.refresh();
            check.equal("refreshed, crash in " + round, y.parties(3), 127);
        }
    }

    /** "After both (refreshing and handing on) .. coefficients .. are gone". */
    private void coefficientsAreGone() {
        for (State state : done()) {
            Story refreshed = state.story().then(SharingRoom::refresh);
            bounds.sameFuture(state + ": refreshed again", refreshed.then(SharingRoom::refresh), refreshed);
            Story handedOn = state.story().then(x -> x.handOn(state.everybody(), 3, 5));
            bounds.sameFuture(state + ": handed on, refreshed", handedOn.then(SharingRoom::refresh), handedOn);
        }
        SharingRoom x = doneMany(7, 7).told();
        x.handOn(127, 1, 1);
        x.handOn(1, 7, 7);
        Bounds.each(1, 7, j -> check.equal("none is kept of those beyond", x.share(j, 0), secretOfMany(7)));
    }

    /** "After both (refreshing and handing on) .. faults are gone": no later call tells of them. */
    private void faultsAreGone() {
        Story plain = Story.of("no faults").then(x -> x.begin(0, 3, 2)).then(x -> x.give(1, 1, 0, 8));
        Story faulty = plain.then(x -> Bounds.each(1, 3, i -> x.fault(i, 6, 0)));
        Story due = plain.then(Rooms::done).then(SharingRoom::refresh);
        bounds.sameFuture("refreshed", faulty.then(Rooms::done).then(SharingRoom::refresh), due);
        Story dueHandedOn = plain.then(Rooms::done).then(x -> x.handOn(5, 2, 4));
        bounds.sameFuture("handed on", faulty.then(Rooms::done).then(x -> x.handOn(5, 2, 4)), dueHandedOn);
        Story begun = faulty.then(Rooms::done).then(x -> x.handOn(5, 2, 4)).then(x -> x.begin(0, 3, 2));
        bounds.sameFuture("a new room", begun, Story.of("new").then(x -> x.begin(0, 3, 2)));
    }

    private static SharingRoom troubled() {
        SharingRoom x = Rooms.many(7, 3);
        x.fault(1, 1, 7);
        x.fault(6, 2, 1);
        x.fault(7, 5, 0);
        x.fault(2, 5, 0);
        x.fault(4, 0, 0);
        Rooms.done(x);
        return x;
    }

    private static String toldOf(SharingRoom x, int n, int t) {
        StringBuilder text = new StringBuilder();
        int everybody = (1 << n) - 1;
        Bounds.each(0, 2, what -> text.append(" ").append(x.parties(what) & everybody));
        for (int i = 1; i <= n; i++) {
            int party = i;
            text.append(" ").append(x.complaints(i) & everybody);
            Bounds.each(1, n, j -> text.append(" ").append(x.received(party, j, 0)));
            Bounds.each(1, n, j -> text.append(" ").append(x.received(party, j, 1)));
            Bounds.each(0, t - 1, k -> text.append(" ").append(x.commitment(party, k, 0)));
            Bounds.each(0, t - 1, k -> text.append(" ").append(x.commitment(party, k, 1)));
        }
        Bounds.each(0, 7, word -> text.append(" ").append(x.digest(word)));
        return text.append(" ").append(x.board()).toString();
    }

    /** "received(), commitment(), complaints(), parties() of 0, 1, 2 and the board are as they were at DONE". */
    private void toldAsAtDoneWhenRefreshed() {
        SharingRoom x = troubled();
        check.equal("qualified", x.parties(0), 127 - 8);
        check.equal("accused", x.parties(1), 66);
        check.equal("opened", x.parties(2), 66);
        check.equal("complaints", x.complaints(1), 96);
        Bounds.each(1, 7, i -> x.give(i, 2, 0, 50));
        x.refresh();
        check.same("refreshed", toldOf(x, 7, 3), toldOf(troubled(), 7, 3));
    }

    /** "as they were at DONE, for parties that there are". */
    private void toldAsAtDoneForThoseThatThereAre() {
        for (int m = 1; m <= 7; m++) {
            int s = Math.min(m, 3);
            SharingRoom x = troubled();
            x.handOn(7, s, m);
            int everybody = (1 << m) - 1;
            int none = m + 1;
            check.same("handed on to " + m, toldOf(x, m, s), toldOf(troubled(), m, s));
            check.equal("qualified of " + m, x.parties(0), 119 & everybody);
            check.equal("accused of " + m, x.parties(1), 66 & everybody);
            check.equal("opened of " + m, x.parties(2), 66 & everybody);
            check.equal("complaints of " + m, x.complaints(1), 96 & everybody);
            check.same("none of " + none, Story.answerOf(() -> x.received(none, 1, 0)), Story.ARGUMENT);
            check.same("none for " + none, Story.answerOf(() -> x.received(1, none, 0)), Story.ARGUMENT);
            check.same("none about " + none, Story.answerOf(() -> x.complaints(none)), Story.ARGUMENT);
            check.same("none shown by " + none, Story.answerOf(() -> x.commitment(none, 0, 0)), Story.ARGUMENT);
        }
    }

    /** "(those of DONE are kept, should it be handed on to more later)". */
    private void keptForMoreLater() {
        for (int m = 1; m <= 7; m++) {
            SharingRoom x = troubled();
            x.handOn(7, 1, m);
            x.handOn(1, 3, 7);
            check.same("to " + m + ", then to 7", toldOf(x, 7, 3), toldOf(troubled(), 7, 3));
        }
        SharingRoom small = Rooms.done(Rooms.many(2, 1));
        small.handOn(3, 1, 7);
        for (int i = 3; i <= 7; i++) {
            check.equal("nobody complained about a new party", small.complaints(i), 0);
            check.equal("a new party has nothing", small.received(1, i, 0), -1);
            check.equal("of a new party there is nothing", small.received(i, 1, 1), -1);
            check.equal("a new party showed no C", small.commitment(i, 0, 0), -1);
            check.equal("a new party showed no A", small.commitment(i, 0, 1), -1);
        }
        check.equal("a new party was not qualified", small.parties(0), 3);
    }

    /** HANDED ON "to parties 1 .. m with threshold s": these are the bounds of all later calls. */
    private void boundsOfTheNewCommittee() {
        Story story = Story.of("handed on").then(x -> Rooms.done(withRoom(x))).then(x -> x.handOn(7, 2, 4));
        bounds.refused("recover by 1 of threshold 2", story, Story.ARGUMENT, x -> x.recover(8));
        bounds.refused("recover by a fifth", story, Story.ARGUMENT, x -> x.recover(24));
        bounds.refused("handOn by 1 of threshold 2", story, Story.ARGUMENT, x -> x.handOn(8, 1, 1));
        bounds.refused("handOn by a fifth", story, Story.ARGUMENT, x -> x.handOn(24, 1, 1));
        bounds.refused("give to a fifth", story, Story.ARGUMENT, x -> x.give(5, 0, 0, 1));
        bounds.refused("give a third", story, Story.ARGUMENT, x -> x.give(1, 2, 0, 1));
        bounds.allowed("recover by the last two", story, x -> x.recover(12));
        bounds.allowed("handOn by the last two", story, x -> x.handOn(12, 7, 7));
        bounds.allowed("give the last one to the last", story, x -> x.give(4, 1, 0, 1));
    }

    private static SharingRoom withRoom(SharingRoom x) {
        x.begin(0, 3, 3);
        x.give(2, 2, 0, 9);
        return x;
    }
}
