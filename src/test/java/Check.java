/** Counts the answers that are not as due, and tells them. */
final class Check {
    interface Call {
        long run();
    }

    private static final int TOLD_AT_MOST = 20;

    private int checked = 0;
    private int wrong = 0;

    /** The answer of a call as a text; of one that throws, throws. and the exception's name. */
    static String answerOf(Call call) {
        try {
            return Long.toString(call.run());
        } catch (RuntimeException e) {
            return "throws." + e.getClass().getSimpleName();
        }
    }

    void due(String what, long want, Call call) {
        same(what, Long.toString(want), answerOf(call));
    }

    /** The call throws the exception for a player, place or slot that is not there, and changes nothing. */
    void dueIndex(String what, SaltMarket x, Call call) {
        refused(what, "throws.IndexOutOfBoundsException", x, call);
    }

    void dueArgument(String what, SaltMarket x, Call call) {
        refused(what, "throws.IllegalArgumentException", x, call);
    }

    void dueState(String what, SaltMarket x, Call call) {
        refused(what, "throws.IllegalStateException", x, call);
    }

    private void refused(String what, String want, SaltMarket x, Call call) {
        String before = View.of(x);
        same(what, want, answerOf(call));
        same(what + " changes nothing: it", before, View.of(x));
    }

    void same(String what, String want, String got) {
        checked++;
        if (!want.equals(got)) {
            wrong++;
            if (wrong <= TOLD_AT_MOST) {
                System.out.println(what + " answered " + got + ", due is " + want);
            }
        }
    }

    boolean failed() {
        return wrong > 0;
    }

    /** Ends the test: with exit code 1 if an answer was not as due. */
    void end(String name) {
        System.out.println(name + ": " + checked + " checked, " + wrong + " wrong");
        if (wrong > 0) {
            System.exit(1);
        }
    }
}
