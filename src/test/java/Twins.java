/**
 * Asks of a call that it changes nothing, also nothing that can only be seen by changing it: it is made on
 * one of two markets that are alike, and they must still be alike then.
 */
final class Twins {
    interface Maker {
        SaltMarket make();
    }

    interface Use {
        long on(SaltMarket x);
    }

    private static final int KINDS = 4;

    private final Check check;

    Twins(Check check) {
        this.check = check;
    }

    void dueIndex(String what, Maker maker, Use use) {
        same(what, "throws.IndexOutOfBoundsException", maker, use);
    }

    void dueArgument(String what, Maker maker, Use use) {
        same(what, "throws.IllegalArgumentException", maker, use);
    }

    void dueState(String what, Maker maker, Use use) {
        same(what, "throws.IllegalStateException", maker, use);
    }

    /** The call answers a number, and changes nothing. */
    void due(String what, long want, Maker maker, Use use) {
        same(what, Long.toString(want), maker, use);
    }

    private void same(String what, String want, Maker maker, Use use) {
        for (int kind = 0; kind < KINDS; kind++) {
            SaltMarket used = maker.make();
            SaltMarket left = maker.make();
            check.same(what, want, Check.answerOf(() -> use.on(used)));
            check.same(what + " changes nothing: it", look(left, kind), look(used, kind));
        }
    }

    private static String look(SaltMarket x, int kind) {
        switch (kind) {
            case 0: return View.of(x);
            case 1: return remembered(x);
            case 2: return slots(x);
            default: return text(x);
        }
    }

    /** The states that undo() goes back through. */
    static String remembered(SaltMarket x) {
        StringBuilder seen = new StringBuilder();
        String answer = Check.answerOf(x::undo);
        while (!answer.startsWith("throws.")) {
            seen.append(answer).append(" states behind").append(View.of(x)).append('\n');
            answer = Check.answerOf(x::undo);
        }
        return seen.toString();
    }

    static String slots(SaltMarket x) {
        String first = Check.answerOf(() -> x.restore(0)) + View.of(x);
        return first + "\n" + Check.answerOf(() -> x.restore(1)) + View.of(x);
    }

    private static String text(SaltMarket x) {
        String game = Check.answerOf(x::errorPosition) + " " + Check.answerOf(x::load) + View.of(x);
        return game + "\n" + Check.answerOf(x::clearText);
    }
}
