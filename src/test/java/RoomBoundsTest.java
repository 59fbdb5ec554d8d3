import java.util.ArrayList;
import java.util.List;

/** Boundary cases of promises 6 to 11, a room before and in its rounds: one test for each sentence. */
public final class RoomBoundsTest {
    private static final int[] ORDERS = {1019, 31};
    private static final int BAD = 1;
    private static final int SLANDERS = 2;
    private static final int KINDS = 7;

    private final Check check = new Check();
    private final Bounds bounds = new Bounds(check);
    private final List<State> states = new ArrayList<>();

    private RoomBoundsTest() {
        states.addAll(State.all(0, 3, 2));
        states.addAll(State.all(1, 1, 1));
        states.addAll(State.all(1, 7, 7));
        states.addAll(State.all(0, 7, 1));
    }

    public static void main(String[] args) {
        RoomBoundsTest test = new RoomBoundsTest();
        test.beginEachRoom();
        test.beginGroupRefused();
        test.beginPartiesRefused();
        test.beginThresholdRefused();
        test.beginRefusedLeavesTheRoom();
        test.beginIsNew();
        test.giveModuloQ();
        test.giveEachCoefficient();
        test.giveNothingIsZero();
        test.giveAgain();
        test.giveByState();
        test.giveNoSuchParty();
        test.giveNoSuchCoefficient();
        test.giveNoSuchWhich();
        test.faultByState();
        test.faultNoSuchKind();
        test.faultNoSuchParty();
        test.faultNoSuchOtherParty();
        test.faultNotAboutItself();
        test.faultOtherIsNotLookedAt();
        test.faultReplaces();
        test.faultOneOfEachKind();
        test.crashByState();
        test.crashNoSuchParty();
        test.crashNoSuchRound();
        test.crashEachRound();
        test.crashWhateverWasToldBefore();
        test.nextEachRound();
        test.nextByState();
        test.stateOfEach();
        test.check.finish("RoomBoundsTest");
    }

    private static Story before(int group, int n, int t) {
        return State.all(group, n, t).get(1).story();
    }

    /** ROOM: "PARTIES 1 .. n (n from 1 to 7) and a THRESHOLD t (1 .. n)". */
    private void beginEachRoom() {
        for (int group = 0; group < 2; group++) {
            for (int n = 1; n <= 7; n++) {
                for (int t = 1; t <= n; t++) {
                    SharingRoom x = new SharingRoom();
                    x.begin(group, n, t);
                    String what = "begin " + group + " " + n + " " + t;
                    int none = n + 1;
                    int noCoefficient = t;
                    check.equal(what + ": all parties", x.parties(3), (1 << n) - 1);
                    check.equal(what + ": the last party", x.complaints(n), 0);
                    check.same(what + ": no more", Story.answerOf(() -> x.complaints(none)), Story.ARGUMENT);
                    x.give(n, t - 1, 0, 1);
                    String given = Story.answerOf(() -> x.give(1, noCoefficient, 0, 1));
                    check.same(what + ": no coefficient t", given, Story.ARGUMENT);
                    Rooms.done(x);
                    check.equal(what + ": done", x.state(), 2);
                    check.equal(what + ": t shares tell the secret", x.recover((1 << t) - 1), t == 1 ? 1 : 0);
                    check.equal(what + ": the board", x.board(), 2 * n * (2 + 2 * t));
                }
            }
        }
    }

    /** Promise 6: "IllegalArgumentException if group, n, t are not as said": the group. */
    private void beginGroupRefused() {
        Bounds.eachOutside(0, 1, group -> {
            bounds.refused("begin " + group, Story.of("new"), Story.ARGUMENT, x -> x.begin(group, 1, 1));
            bounds.refused("begin " + group, Story.of("new"), Story.ARGUMENT, x -> x.begin(group, 7, 7));
        });
    }

    /** Promise 6: "IllegalArgumentException if group, n, t are not as said": n from 1 to 7. */
    private void beginPartiesRefused() {
        Bounds.eachOutside(1, 7, n -> {
            bounds.refused("begin with n = " + n, Story.of("new"), Story.ARGUMENT, x -> x.begin(0, n, 1));
            bounds.refused("begin with n = t = " + n, Story.of("new"), Story.ARGUMENT, x -> x.begin(1, n, n));
        });
    }

    /** Promise 6: "IllegalArgumentException if group, n, t are not as said": t from 1 to n. */
    private void beginThresholdRefused() {
        Bounds.each(1, 7, n -> Bounds.eachOutside(1, n, t ->
                bounds.refused("begin " + n + " with t = " + t, Story.of("new"), Story.ARGUMENT,
                        x -> x.begin(0, n, t))));
    }

    /** Promise 6: "(the room before stays)", in every state. */
    private void beginRefusedLeavesTheRoom() {
        int[][] wrong = {
            {-1, 2, 2}, {2, 2, 2}, {Integer.MIN_VALUE, 2, 2}, {Integer.MAX_VALUE, 2, 2}, {1, 0, 1}, {1, 8, 1},
            {1, Integer.MIN_VALUE, 1}, {1, Integer.MAX_VALUE, 1}, {1, 4, 0}, {1, 4, 5}, {0, 0, 0}, {0, 8, 8},
            {1, 4, Integer.MIN_VALUE}, {1, 4, Integer.MAX_VALUE}
        };
        for (State state : states) {
            for (int[] w : wrong) {
                bounds.refused("begin " + w[0] + " " + w[1] + " " + w[2], state.story(), Story.ARGUMENT,
                        x -> x.begin(w[0], w[1], w[2]));
            }
        }
    }

    /** Promise 6: "A new room.", whatever the room before was. */
    private void beginIsNew() {
        for (State state : states) {
            for (int n = 1; n <= 7; n += 3) {
                int size = n;
                Story due = Story.of("new").then(State::somePoints).then(x -> x.begin(0, size, 1));
                bounds.sameFuture(state + ": begin", state.story().then(x -> x.begin(0, size, 1)), due);
                Story dueOther = Story.of("new").then(State::somePoints).then(x -> x.begin(1, size, size));
                bounds.sameFuture(state + ": begin", state.story().then(x -> x.begin(1, size, size)), dueOther);
            }
            beginWithIdleOnes(state);
        }
    }

    /** Those that do nothing in the new room must not be taken to have done what they did before. */
    private void beginWithIdleOnes(State state) {
        Story again = state.story().then(x -> x.begin(0, 3, 2));
        Story due = Story.of("new").then(State::somePoints).then(x -> x.begin(0, 3, 2));
        for (int round = 1; round <= 5; round += 4) {
            int r = round;
            bounds.sameFuture(state + ": begin, crash in " + r, again.then(x -> x.crash(1, r)),
                    due.then(x -> x.crash(1, r)));
        }
        Bounds.each(0, KINDS - 1, kind ->
                bounds.sameFuture(state + ": begin, fault " + kind, again.then(x -> x.fault(1, kind, 2)),
                        due.then(x -> x.fault(1, kind, 2))));
    }

    /** Promise 7: "becomes this modulo q (0 .. q - 1)". */
    private void giveModuloQ() {
        for (int group = 0; group < 2; group++) {
            int q = ORDERS[group];
            int[][] values = {
                {0, 0}, {1, 1}, {q - 1, q - 1}, {q, 0}, {q + 1, 1}, {2 * q - 1, q - 1}, {2 * q, 0}, {-1, q - 1},
                {1 - q, 1}, {-q, 0}, {-q - 1, q - 1}, {-2 * q, 0},
                // 2 ^ 31 is 250 modulo 1019 and 2 modulo 31.
                {Integer.MAX_VALUE, group == 0 ? 249 : 1}, {Integer.MIN_VALUE, group == 0 ? 1019 - 250 : 31 - 2}
            };
            for (int[] v : values) {
                SharingRoom x = new SharingRoom();
                x.begin(group, 1, 1);
                x.give(1, 0, 0, v[0]);
                x.give(1, 0, 1, v[0]);
                x.next();
                check.equal("group " + group + ", a = " + v[0], x.received(1, 1, 0), v[1]);
                check.equal("group " + group + ", b = " + v[0], x.received(1, 1, 1), v[1]);
                x.begin(group, 1, 1);
                Rooms.done(x);
                x.handOn(1, 2, 2);
                x.give(2, 1, 0, v[0]);
                x.refresh();
                check.equal("group " + group + ", a when done = " + v[0], x.share(1, 0), v[1]);
            }
        }
    }

    /** Promise 7: "Coefficient a(i, k) (which = 0) or b(i, k) (1)": each of the most that there can be. */
    private void giveEachCoefficient() {
        for (int i = 1; i <= 7; i++) {
            for (int k = 0; k < 7; k++) {
                for (int which = 0; which < 2; which++) {
                    SharingRoom x = new SharingRoom();
                    x.begin(0, 7, 7);
                    x.give(i, k, which, 1018);
                    x.next();
                    checkPowers(x, i, k, which);
                }
            }
        }
    }

    private void checkPowers(SharingRoom x, int i, int k, int which) {
        int[] power = new int[k + 1];
        power[k] = 1018;
        for (int dealer = 1; dealer <= 7; dealer++) {
            for (int j = 1; j <= 7; j++) {
                int due = dealer == i ? Slow.evaluate(1, power, j) : 0;
                String what = "(" + i + ", " + k + ") of " + dealer + " for " + j;
                check.equal(what, x.received(dealer, j, which), due);
                check.equal(what + ", the other", x.received(dealer, j, 1 - which), 0);
            }
        }
    }

    /** COEFFICIENTS: "0 as long as they are not given". */
    private void giveNothingIsZero() {
        for (int group = 0; group < 2; group++) {
            SharingRoom x = new SharingRoom();
            x.begin(group, 7, 7);
            x.next();
            for (int i = 1; i <= 7; i++) {
                check.equal("f(" + i + ", 7)", x.received(i, 7, 0), 0);
                check.equal("e(" + i + ", 7)", x.received(i, 7, 1), 0);
                check.equal("C(" + i + ", 6)", x.commitment(i, 6, 0), group == 0 ? 1 : 4000);
            }
        }
        Story given = Story.of("given 0").then(x -> x.begin(0, 2, 2)).then(x -> x.give(2, 1, 0, 0));
        bounds.sameFuture("0 given is as not given", given, Story.of("not given").then(x -> x.begin(0, 2, 2)));
    }

    /** Promise 7: "becomes this": what was given before is gone. */
    private void giveAgain() {
        Story twice = before(0, 3, 2).then(x -> x.give(2, 1, 0, 900)).then(x -> x.give(2, 1, 0, 7));
        bounds.sameFuture("the last one counts", twice, before(0, 3, 2).then(x -> x.give(2, 1, 0, 7)));
        Story zero = before(0, 3, 2).then(x -> x.give(3, 0, 1, 900)).then(x -> x.give(3, 0, 1, 1019));
        bounds.sameFuture("0 again", zero, before(0, 3, 2).then(x -> x.give(3, 0, 1, 0)));
    }

    /**
     * Promise 7: "IllegalStateException if there is no room, or it is in rounds (one was done and it
     * is neither DONE nor FAILED)".
     */
    private void giveByState() {
        for (State state : states) {
            if (state.is(State.Stage.NO_ROOM, State.Stage.IN_ROUNDS)) {
                bounds.refused("give", state.story(), Story.STATE, x -> x.give(1, 0, 0, 400));
                bounds.refused("give to nobody", state.story(), Story.STATE, x -> x.give(0, 0, 0, 400));
                bounds.refused("give what is none", state.story(), Story.STATE, x -> x.give(1, 7, 2, 400));
            } else {
                bounds.allowed("give", state.story(), x -> x.give(1, 0, 0, 400));
                bounds.allowed("give to the last", state.story(), x -> x.give(state.n(), state.t() - 1, 1, 400));
                bounds.allowed("give the least", state.story(), x -> x.give(1, 0, 0, Integer.MIN_VALUE));
            }
        }
        bounds.changes("give", before(0, 3, 2), x -> x.give(3, 1, 1, 400));
    }

    /** Promise 7: "IllegalArgumentException if there is no such party, k or which": the party. */
    private void giveNoSuchParty() {
        for (State state : states) {
            if (state.is(State.Stage.BEFORE, State.Stage.DONE, State.Stage.FAILED)) {
                Bounds.eachOutside(1, state.n(), i ->
                        bounds.refused("give to " + i, state.story(), Story.ARGUMENT, x -> x.give(i, 0, 0, 400)));
            }
        }
    }

    /** Promise 7: "IllegalArgumentException if there is no such party, k or which": k. */
    private void giveNoSuchCoefficient() {
        for (State state : states) {
            if (state.is(State.Stage.BEFORE, State.Stage.DONE, State.Stage.FAILED)) {
                Bounds.eachOutside(0, state.t() - 1, k ->
                        bounds.refused("give k = " + k, state.story(), Story.ARGUMENT, x -> x.give(1, k, 0, 400)));
            }
        }
    }

    /** Promise 7: "IllegalArgumentException if there is no such party, k or which": which. */
    private void giveNoSuchWhich() {
        for (State state : states) {
            if (state.is(State.Stage.BEFORE, State.Stage.DONE, State.Stage.FAILED)) {
                Bounds.eachOutside(0, 1, which ->
                        bounds.refused("give " + which, state.story(), Story.ARGUMENT, x -> x.give(1, 0, which, 400)));
            }
        }
    }

    /** Promise 8: "IllegalStateException if there is no room or a round was done". */
    private void faultByState() {
        for (State state : states) {
            for (int kind = 0; kind < KINDS; kind++) {
                int k = kind;
                boolean another = kind == BAD || kind == SLANDERS;
                if (!state.is(State.Stage.BEFORE)) {
                    bounds.refused("fault " + k, state.story(), Story.STATE, x -> x.fault(1, k, 2));
                } else if (!another || state.n() > 1) {
                    bounds.allowed("fault " + k, state.story(), x -> x.fault(1, k, 2));
                }
            }
            if (!state.is(State.Stage.BEFORE)) {
                bounds.refused("a fault that is none", state.story(), Story.STATE, x -> x.fault(0, 7, 0));
            }
        }
        bounds.changes("a fault", before(0, 3, 2), x -> x.fault(2, 0, 0));
    }

    /** Promise 8: "IllegalArgumentException if there is no such kind". */
    private void faultNoSuchKind() {
        for (State state : states) {
            if (state.is(State.Stage.BEFORE)) {
                Bounds.eachOutside(0, 6, kind ->
                        bounds.refused("kind " + kind, state.story(), Story.ARGUMENT, x -> x.fault(1, kind, 2)));
            }
        }
    }

    /** Promise 8: "IllegalArgumentException if there is no such .. party". */
    private void faultNoSuchParty() {
        for (State state : states) {
            if (state.is(State.Stage.BEFORE)) {
                Bounds.eachOutside(1, state.n(), i -> Bounds.each(0, KINDS - 1, kind ->
                        bounds.refused("fault " + kind + " of " + i, state.story(), Story.ARGUMENT,
                                x -> x.fault(i, kind, 1))));
            }
        }
    }

    /** Promise 8: "IllegalArgumentException if there is no such .. other party". */
    private void faultNoSuchOtherParty() {
        for (State state : states) {
            if (state.is(State.Stage.BEFORE)) {
                Bounds.eachOutside(1, state.n(), j -> Bounds.each(BAD, SLANDERS, kind ->
                        bounds.refused("fault " + kind + " about " + j, state.story(), Story.ARGUMENT,
                                x -> x.fault(1, kind, j))));
            }
        }
        for (int j = 2; j <= 7; j++) {
            int other = j;
            bounds.allowed("bad to " + j, before(1, 7, 7), x -> x.fault(1, BAD, other));
            bounds.allowed("slanders 1", before(1, 7, 7), x -> x.fault(other, SLANDERS, 1));
        }
    }

    /** Promise 8: "about party j (of 1 and 2 another one ..)". */
    private void faultNotAboutItself() {
        for (State state : states) {
            if (state.is(State.Stage.BEFORE)) {
                Bounds.each(1, state.n(), i -> Bounds.each(BAD, SLANDERS, kind ->
                        bounds.refused("fault " + kind + " about itself, " + i, state.story(), Story.ARGUMENT,
                                x -> x.fault(i, kind, i))));
            }
        }
    }

    /** Promise 8: "else j is not looked at". */
    private void faultOtherIsNotLookedAt() {
        int[] others = {Integer.MIN_VALUE, -1, 0, 1, 2, 3, 4, 8, Integer.MAX_VALUE};
        for (int kind = 0; kind < KINDS; kind++) {
            if (kind == BAD || kind == SLANDERS) {
                continue;
            }
            int k = kind;
            for (int j : others) {
                Story about = before(0, 3, 2).then(x -> x.fault(2, k, j));
                bounds.sameFuture("fault " + k + " about " + j, about, before(0, 3, 2).then(x -> x.fault(2, k, 1)));
            }
        }
    }

    /** Promise 8: "one of the same kind before is gone", but not by a call that is refused. */
    private void faultReplaces() {
        for (int kind = BAD; kind <= SLANDERS; kind++) {
            int k = kind;
            Story due = before(0, 7, 4).then(x -> x.fault(2, k, 6));
            Story again = before(0, 7, 4).then(x -> x.fault(2, k, 1)).then(x -> x.fault(2, k, 6));
            bounds.sameFuture("fault " + k + " again", again, due);
            bounds.changes("fault " + k + " about another one", due, x -> x.fault(2, k, 5));
            bounds.refused("fault " + k + " about itself", due, Story.ARGUMENT, x -> x.fault(2, k, 2));
            bounds.refused("fault " + k + " about nobody", due, Story.ARGUMENT, x -> x.fault(2, k, 8));
        }
        for (int kind = 0; kind < KINDS; kind++) {
            int k = kind;
            Story once = before(0, 7, 4).then(x -> x.fault(2, k, 6));
            bounds.sameFuture("fault " + k + " twice", once.then(x -> x.fault(2, k, 6)), once);
        }
    }

    /** FAULTS: "a party has at most one of each kind": it can have one of every kind. */
    private void faultOneOfEachKind() {
        SharingRoom x = Rooms.many(3, 2);
        x.fault(1, 1, 2);
        x.fault(1, 2, 3);
        x.fault(1, 4, 0);
        x.fault(1, 5, 0);
        x.fault(1, 6, 0);
        x.next();
        check.equal("bad to 2", x.received(1, 2, 0), 13);
        x.next();
        check.equal("2 complains", x.complaints(1), 2);
        check.equal("and it slanders 3", x.complaints(3), 1);
        Rooms.rounds(x, 2);
        check.equal("lies", x.received(1, 2, 0), 13);
        check.equal("out", x.parties(0), 6);
        SharingRoom all = Rooms.many(3, 2);
        Bounds.each(0, 6, kind -> all.fault(1, kind, 2));
        Rooms.done(all);
        check.equal("of all kinds: it is silent", all.received(1, 1, 0), -1);
        check.equal("of all kinds: it slanders", all.complaints(2), 1);
        check.equal("of all kinds: done without it", all.parties(0), 6);
    }

    /** Promise 9: "IllegalStateException if there is no room or a round was done". */
    private void crashByState() {
        for (State state : states) {
            for (int round = 1; round <= 8; round++) {
                int r = round;
                if (state.is(State.Stage.BEFORE)) {
                    bounds.allowed("crash in " + r, state.story(), x -> x.crash(1, r));
                } else {
                    bounds.refused("crash in " + r, state.story(), Story.STATE, x -> x.crash(1, r));
                }
            }
            if (!state.is(State.Stage.BEFORE)) {
                bounds.refused("a crash that is none", state.story(), Story.STATE, x -> x.crash(0, 9));
            }
        }
        bounds.changes("a crash", before(0, 3, 2), x -> x.crash(2, 7));
    }

    /** Promise 9: "IllegalArgumentException if there is no such party". */
    private void crashNoSuchParty() {
        for (State state : states) {
            if (state.is(State.Stage.BEFORE)) {
                Bounds.eachOutside(1, state.n(), i ->
                        bounds.refused("crash of " + i, state.story(), Story.ARGUMENT, x -> x.crash(i, 1)));
                bounds.allowed("crash of the last", state.story(), x -> x.crash(state.n(), 1));
            }
        }
    }

    /** Promise 9: "IllegalArgumentException if there is no such .. round", "(1 .. 8; 8: never)". */
    private void crashNoSuchRound() {
        for (State state : states) {
            if (state.is(State.Stage.BEFORE)) {
                Bounds.eachOutside(1, 8, round ->
                        bounds.refused("crash in " + round, state.story(), Story.ARGUMENT, x -> x.crash(1, round)));
            }
        }
    }

    /** Promise 9: "it does nothing from a round on (1 .. 8; 8: never)". */
    private void crashEachRound() {
        for (int round = 1; round <= 8; round++) {
            SharingRoom x = Rooms.many(7, 1);
            x.crash(7, round);
            for (int coming = 1; coming <= 7; coming++) {
                check.equal("crash in " + round + ", before " + coming, x.parties(3), coming < round ? 127 : 63);
                x.next();
            }
            check.equal("crash in " + round + ", done", x.parties(3), round == 8 ? 127 : 63);
        }
        Story never = Story.of("never").then(x -> x.begin(0, 2, 2));
        bounds.sameFuture("8 is never", never.then(x -> x.crash(1, 8)), never);
    }

    /** Promise 9: "whatever was told before". */
    private void crashWhateverWasToldBefore() {
        for (int first = 1; first <= 8; first++) {
            for (int last = 1; last <= 8; last++) {
                int one = first;
                int two = last;
                Story twice = before(0, 3, 2).then(x -> x.crash(2, one)).then(x -> x.crash(2, two));
                Story once = before(0, 3, 2).then(x -> x.crash(2, two));
                bounds.sameFuture("crash in " + first + ", then in " + last, twice, once);
            }
        }
    }

    /** Promise 10: "Does the next round: its number.", from 1 to 7. */
    private void nextEachRound() {
        for (int n = 1; n <= 7; n++) {
            SharingRoom x = Rooms.many(n, n);
            for (int round = 1; round <= 7; round++) {
                check.equal("round", x.next(), round);
            }
        }
        SharingRoom idle = Rooms.many(3, 2);
        Bounds.each(1, 3, i -> idle.crash(i, 5));
        for (int round = 1; round <= 7; round++) {
            check.equal("a round in which nobody works is one, too", idle.next(), round);
        }
    }

    /** Promise 10: "IllegalStateException if there is no room, or it is DONE or FAILED." */
    private void nextByState() {
        for (State state : states) {
            if (state.is(State.Stage.BEFORE, State.Stage.IN_ROUNDS)) {
                bounds.changes("next", state.story(), SharingRoom::next);
            } else {
                bounds.refused("next", state.story(), Story.STATE, SharingRoom::next);
            }
        }
    }

    /** Promise 11: "0 no room; 1 in rounds, or before them; 2 DONE; 3 FAILED." ("What FAILED stays so.") */
    private void stateOfEach() {
        int[] due = {0, 1, 1, 2, 3};
        for (State state : states) {
            SharingRoom x = state.story().told();
            check.equal(state + ": state", x.state(), due[state.stage().ordinal()]);
            bounds.unchanged("state", state.story(), SharingRoom::state);
            if (state.is(State.Stage.FAILED)) {
                Story.answerOf(x::next);
                Story.answerOf(x::refresh);
                x.give(1, 0, 0, 1);
                check.equal(state + ": failed stays so", x.state(), 3);
            }
        }
    }
}
