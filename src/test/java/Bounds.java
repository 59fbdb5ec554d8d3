import java.util.List;
import java.util.function.Consumer;
import java.util.function.IntConsumer;

/** Arguments at the bounds, and checks of calls that are refused. */
final class Bounds {
    private final Check check;

    Bounds(Check check) {
        this.check = check;
    }

    /** Just outside of the bounds, and the least and the greatest int. */
    static int[] outside(int least, int greatest) {
        return new int[] {Integer.MIN_VALUE, least - 1, greatest + 1, Integer.MAX_VALUE};
    }

    static void eachOutside(int least, int greatest, IntConsumer test) {
        for (int value : outside(least, greatest)) {
            test.accept(value);
        }
    }

    static void each(int least, int greatest, IntConsumer test) {
        for (int value = least; value <= greatest; value++) {
            test.accept(value);
        }
    }

    /** The call throws this, and all is then as if it had not been made. */
    void refused(String what, Story story, String due, Consumer<SharingRoom> call) {
        SharingRoom x = story.told();
        check.same(story + ": " + what, Story.answerOf(() -> call.accept(x)), due);
        unchanged(what, story, call);
    }

    /** Whether it throws or not, all is then as if the call had not been made. */
    void unchanged(String what, Story story, Consumer<SharingRoom> call) {
        sameFuture(story + ": " + what + " changes nothing", story.thenTried(call), story);
    }

    void allowed(String what, Story story, Consumer<SharingRoom> call) {
        SharingRoom x = story.told();
        check.same(story + ": " + what, Story.answerOf(() -> call.accept(x)), "0");
    }

    void sameFuture(String what, Story got, Story due) {
        check.same(what, firstDifference(got.future(), due.future()), "the same");
    }

    /** The call changes something that is told now or later. */
    void changes(String what, Story story, Consumer<SharingRoom> call) {
        String difference = firstDifference(story.then(call).future(), story.future());
        check.same(story + ": " + what + " changes something", String.valueOf(!difference.equals("the same")), "true");
    }

    private static String firstDifference(List<String> got, List<String> due) {
        for (int k = 0; k < Math.min(got.size(), due.size()); k++) {
            if (!got.get(k).equals(due.get(k))) {
                return "\n  got " + got.get(k) + "\n  due " + due.get(k) + "\n ";
            }
        }
        return got.size() == due.size() ? "the same" : "a different count of rounds";
    }
}
