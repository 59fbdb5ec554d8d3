import java.util.ArrayList;
import java.util.List;
import java.util.function.Consumer;
import java.util.function.IntSupplier;

/**
 * A run of calls that a test does again on as many new objects as it needs: so that no object is
 * used for more than the 512 calls of which the document tells the answers.
 */
final class Story {
    static final String ARGUMENT = "throws.IllegalArgumentException";
    static final String STATE = "throws.IllegalStateException";
    static final String INDEX = "throws.IndexOutOfBoundsException";

    private final String name;
    private final List<Consumer<SharingRoom>> calls;
    private List<String> future;

    private Story(String name, List<Consumer<SharingRoom>> calls) {
        this.name = name;
        this.calls = calls;
    }

    static Story of(String name) {
        return new Story(name, List.of());
    }

    Story then(String newName, Consumer<SharingRoom> more) {
        List<Consumer<SharingRoom>> all = new ArrayList<>(calls);
        all.add(more);
        return new Story(newName, all);
    }

    Story then(Consumer<SharingRoom> more) {
        return then(name, more);
    }

    /** A new object after these calls. */
    SharingRoom told() {
        SharingRoom x = new SharingRoom();
        for (Consumer<SharingRoom> call : calls) {
            call.accept(x);
        }
        return x;
    }

    static String answerOf(IntSupplier call) {
        try {
            return String.valueOf(call.getAsInt());
        } catch (RuntimeException e) {
            return "throws." + e.getClass().getSimpleName();
        }
    }

    static String answerOf(Runnable call) {
        return answerOf(() -> {
            call.run();
            return 0;
        });
    }

    /** The same story with a call whose exception is caught. */
    Story thenTried(Consumer<SharingRoom> call) {
        return then(x -> answerOf(() -> call.accept(x)));
    }

    /**
     * All that the object tells now, after each round to come, and when it is refreshed or handed
     * on then: this also shows coefficients, faults and crashes, of which nothing is told before.
     */
    List<String> future() {
        if (future != null) {
            return future;
        }
        future = new ArrayList<>();
        future.add("now: " + pointsOf(told()) + roomOf(told()));
        Story later = this;
        for (int round = 1; round <= 7 && later.told().state() == 1; round++) {
            later = later.then(SharingRoom::next);
            future.add(round + " rounds later: " + roomOf(later.told()));
        }
        future.add("refreshed: " + roomOf(later.thenTried(SharingRoom::refresh).told()));
        for (int n = 1; n <= 7; n++) {
            int all = (1 << n) - 1;
            future.add("handed on by " + n + ": " + roomOf(later.thenTried(x -> x.handOn(all, 7, 7)).told()));
        }
        return future;
    }

    private static String pointsOf(SharingRoom x) {
        StringBuilder text = new StringBuilder();
        text.append(" degree ").append(x.degree());
        for (int at = 0; at <= 30; at++) {
            int here = at;
            text.append(" combine ").append(answerOf(() -> x.combine(here)));
        }
        int[] fresh = {1018, 255, 31, 30, 29};
        for (int at : fresh) {
            text.append(" point ").append(answerOf(() -> x.point(at, 0)));
        }
        return text.toString();
    }

    private static String roomOf(SharingRoom x) {
        StringBuilder text = new StringBuilder();
        text.append(" state ").append(x.state()).append(" key ").append(x.key());
        text.append(" board ").append(x.board());
        for (int word = 0; word < 8; word++) {
            text.append(" digest ").append(x.digest(word));
        }
        for (int what = 0; what < 4; what++) {
            text.append(" parties ").append(x.parties(what));
        }
        for (int i = 1; i <= 7; i++) {
            partyOf(x, i, text);
        }
        for (int n = 1; n <= 7; n++) {
            int all = (1 << n) - 1;
            text.append(" recover ").append(answerOf(() -> x.recover(all)));
        }
        return text.toString();
    }

    private static void partyOf(SharingRoom x, int i, StringBuilder text) {
        text.append(" party ").append(i);
        text.append(" complaints ").append(answerOf(() -> x.complaints(i)));
        for (int which = 0; which < 2; which++) {
            int w = which;
            text.append(" share ").append(answerOf(() -> x.share(i, w)));
            for (int k = 0; k < 7; k++) {
                int j = k + 1;
                int c = k;
                text.append(" received ").append(answerOf(() -> x.received(i, j, w)));
                text.append(" commitment ").append(answerOf(() -> x.commitment(i, c, w)));
            }
        }
    }

    @Override
    public String toString() {
        return name;
    }
}
