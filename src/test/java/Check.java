/** Counts what is as due and prints what is not. */
final class Check {
    private int right;
    private int wrong;

    void equal(String what, long got, long due) {
        if (got == due) {
            right++;
        } else {
            report(what, String.valueOf(got), String.valueOf(due));
        }
    }

    void same(String what, String got, String due) {
        if (got.equals(due)) {
            right++;
        } else {
            report(what, got, due);
        }
    }

    void badArgument(String what, Runnable call) {
        same(what, thrownBy(call), "IllegalArgumentException");
    }

    void badState(String what, Runnable call) {
        same(what, thrownBy(call), "IllegalStateException");
    }

    void outOfBounds(String what, Runnable call) {
        same(what, thrownBy(call), "IndexOutOfBoundsException");
    }

    void finish(String test) {
        System.out.println(test + ": " + right + " as due, " + wrong + " not as due");
        if (wrong != 0 || right == 0) {
            System.exit(1);
        }
    }

    private void report(String what, String got, String due) {
        wrong++;
        System.out.println(what + " gave " + got + ", due is " + due);
    }

    private static String thrownBy(Runnable call) {
        try {
            call.run();
        } catch (RuntimeException e) {
            return e.getClass().getSimpleName();
        }
        return "nothing thrown";
    }
}
