import java.util.ArrayList;
import java.util.List;

/** A room in one of the states that the document knows; n and t are those that it has then. */
record State(Story story, Stage stage, int n, int t) {
    enum Stage { NO_ROOM, BEFORE, IN_ROUNDS, DONE, FAILED }

    /** A room of this group, n and t in every state, and what can come of it afterwards. */
    static List<State> all(int group, int n, int t) {
        List<State> states = new ArrayList<>();
        String room = "(" + group + ", " + n + ", " + t + ") ";
        states.add(new State(Story.of("no room").then(State::somePoints), Stage.NO_ROOM, 0, 0));
        Story before = Story.of(room + "before rounds").then(State::somePoints).then(x -> prepare(x, group, n, t));
        states.add(new State(before, Stage.BEFORE, n, t));
        for (int round = 1; round <= 6; round++) {
            int count = round;
            Story later = before.then(room + "after round " + round, x -> Rooms.rounds(x, count));
            states.add(new State(later, Stage.IN_ROUNDS, n, t));
        }
        states.add(failedAtOnce(room, before, n, t));
        states.add(failedAtLast(room, before, n, t));
        addDone(states, room, before.then(room + "done", Rooms::done), n, t);
        return states;
    }

    private static void addDone(List<State> states, String room, Story done, int n, int t) {
        int everybody = (1 << n) - 1;
        states.add(new State(done, Stage.DONE, n, t));
        states.add(new State(done.then(room + "refreshed", SharingRoom::refresh), Stage.DONE, n, t));
        Story one = done.then(room + "handed on to one", x -> x.handOn(everybody, 1, 1));
        states.add(new State(one, Stage.DONE, 1, 1));
        Story given = done.then(x -> x.give(1, 0, 0, 1000));
        Story five = given.then(room + "handed on to five", x -> x.handOn(everybody, 3, 5));
        states.add(new State(five, Stage.DONE, 5, 3));
        Story seven = one.then(room + "handed on to one, then to seven", x -> x.handOn(1, 7, 7));
        states.add(new State(seven, Stage.DONE, 7, 7));
    }

    private static State failedAtOnce(String room, Story before, int n, int t) {
        Story failed = before.then(room + "failed in round 4", x -> {
            Bounds.each(1, n, i -> x.fault(i, 0, 0));
            Rooms.rounds(x, 4);
        });
        return new State(failed, Stage.FAILED, n, t);
    }

    private static State failedAtLast(String room, Story before, int n, int t) {
        Story failed = before.then(room + "failed in round 7", x -> {
            Bounds.each(1, n, i -> x.fault(i, 6, 0));
            Bounds.each(1, n, i -> x.fault(i, 5, 0));
            Rooms.rounds(x, 7);
        });
        return new State(failed, Stage.FAILED, n, t);
    }

    static void somePoints(SharingRoom x) {
        x.field(2);
        x.point(3, 4);
        x.point(5, 7);
    }

    /** With a fault and a crash where the room still gets done with them. */
    private static void prepare(SharingRoom x, int group, int n, int t) {
        x.begin(group, n, t);
        for (int i = 1; i <= n; i++) {
            for (int k = 0; k < t; k++) {
                x.give(i, k, 0, 37 * i + 11 * k + 5);
                x.give(i, k, 1, 100 * k + i);
            }
        }
        if (n > 1) {
            x.fault(1, 1, 2);
            x.fault(n, 5, 0);
        }
        if (n > t) {
            x.crash(n, 6);
        }
    }

    boolean is(Stage... some) {
        return List.of(some).contains(stage);
    }

    boolean hasRoom() {
        return stage != Stage.NO_ROOM;
    }

    int everybody() {
        return (1 << n) - 1;
    }

    @Override
    public String toString() {
        return story.toString();
    }
}
