/** Promises 1 to 5: a new object, append, clearText, errorPosition, load. */
public final class TextTest {
    private static final Check CHECK = new Check();

    public static void main(String[] args) {
        newObject();
        append();
        clearText();
        errorPosition();
        errorPositionOfEverySign();
        loadDoesTheMoves();
        loadLeavesOut();
        loadMakesAllAnew();
        loadRefuses();
        CHECK.end("TextTest");
    }

    private static void newObject() {
        SaltMarket x = new SaltMarket();
        for (int what = 0; what <= 11; what++) {
            int k = what;
            CHECK.due("1: new about(" + what + ")", 0, () -> x.about(k));
        }
        CHECK.due("1: new setting(0)", 6, () -> x.setting(0));
        CHECK.due("1: new setting(1)", 1, () -> x.setting(1));
        CHECK.due("1: new setting(2)", 2, () -> x.setting(2));
        CHECK.due("1: new worker(0, 0)", -1, () -> x.worker(0, 0));
        CHECK.dueIndex("1: new player(0, 0)", x, () -> x.player(0, 0));
        CHECK.dueState("1: new undo()", x, () -> x.undo());
        CHECK.dueState("1: new restore(0)", x, () -> x.restore(0));
        CHECK.dueState("1: new restore(1)", x, () -> x.restore(1));
        CHECK.due("1: new errorPosition()", 0, () -> x.errorPosition());
        CHECK.due("1: new clearText()", 0, () -> x.clearText());
        CHECK.due("1: NONE", -1, () -> SaltMarket.NONE);
    }

    private static void append() {
        SaltMarket x = new SaltMarket();
        CHECK.dueArgument("2: append(-1)", x, () -> x.append(-1));
        CHECK.dueArgument("2: append(256)", x, () -> x.append(256));
        CHECK.due("2: append(0)", 1, () -> x.append(0));
        CHECK.due("2: append(255)", 2, () -> x.append(255));
        for (int i = 3; i <= 120; i++) {
            CHECK.due("2: append number " + i, i, () -> x.append('S'));
        }
        CHECK.dueState("2: append to a full text", x, () -> x.append('S'));
        CHECK.dueArgument("2: append(256) to a full text", x, () -> x.append(256));
        CHECK.dueArgument("2: append(least) to a full text", x, () -> x.append(Integer.MIN_VALUE));
        CHECK.due("2: the length stays", 120, () -> x.clearText());
    }

    private static void clearText() {
        SaltMarket x = Markets.typed("S20");
        CHECK.due("3: clearText()", 3, () -> x.clearText());
        CHECK.due("3: clearText() again", 0, () -> x.clearText());
        CHECK.due("3: the text is empty", 0, () -> x.errorPosition());
        CHECK.due("3: append behind it", 1, () -> x.append('S'));
        CHECK.due("3: and it is the first sign", 1, () -> x.errorPosition());
        SaltMarket game = Markets.loaded("S200pp");
        String before = View.of(game).replaceAll(" e.*", "");
        game.clearText();
        CHECK.same("3: the game stays", before, View.of(game).replaceAll(" e.*", ""));
    }

    private static void fault(String signs, int want) {
        SaltMarket x = Markets.typed(signs);
        CHECK.due("4: errorPosition() of '" + signs + "'", want, () -> x.errorPosition());
    }

    private static void errorPosition() {
        fault("", 0);
        fault("s", 0);
        fault("xS200", 0);
        fault("S", 1);
        fault("S1", 1);
        fault("S5", 1);
        fault("S2", 2);
        fault("S3x", 2);
        fault("S4-1", 2);
        fault("S40", 3);
        fault("S40p", 3);
        fault("S400", -1);
        fault("S299", -1);
        fault("S300pnhr-", -1);
        fault("S300pnhr- ", 9);
        fault("S300P", 4);
        fault("S300l", 5);
        fault("S300l0", 5);
        fault("S300l4", 5);
        fault("S300l1l2l3", -1);
        fault("S300l11", 6);
        fault("S300m", 5);
        fault("S300m0", 6);
        fault("S300m3", 5);
        fault("S300m3x", 5);
        fault("S300mm", 5);
        fault("S300m00", 6);
        fault("S300m04", 6);
        fault("S300m0p", 6);
        fault("S300m01m02m03m11m12m13m21m22m23", -1);
        fault("S300m011", 7);
        fault("S300pS300", 5);
        StringBuilder full = new StringBuilder("S300");
        while (full.length() < 120) {
            full.append('p');
        }
        fault(full.toString(), -1);
        fault(full.substring(0, 119) + "l", 120);
        fault(full.substring(0, 119) + "m", 120);
        fault(full.substring(0, 118) + "m2", 120);
        fault(full.substring(0, 117) + "m23", -1);
    }

    /** At each place of a game every sign is tried. */
    private static void errorPositionOfEverySign() {
        everySign("", "S", 0);
        everySign("S", "234", 1);
        everySign("S2", "0123456789", 2);
        everySign("S20", "0123456789", 3);
        everySign("S200", "pnhrlm-", 4);
        everySign("S200l", "123", 5);
        everySign("S200m", "012", 5);
        everySign("S200m1", "123", 6);
        everySign("S200p", "pnhrlm-", 5);
    }

    private static void everySign(String head, String allowed, int at) {
        for (int c = 0; c <= 255; c++) {
            SaltMarket x = Markets.typed(head);
            x.append(c);
            boolean fine = allowed.indexOf(c) >= 0;
            int found = x.errorPosition();
            CHECK.same("4: '" + head + "' and sign " + c + " is refused", "" + !fine, "" + (found == at));
        }
    }

    private static void loadDoesTheMoves() {
        // Weather 6, then 1: six salt from the pans, one fish from the pier.
        SaltMarket x = Markets.typed("S200pnhrm03l1-");
        CHECK.due("5: load()", 0, () -> x.load());
        CHECK.due("5: players", 2, () -> x.about(0));
        // 0: p, h, 3 of the 6 salt sold for 3 + 2 + 1, -; 1: n, r, the fish is cloth.
        CHECK.due("5: coins of 0", 5 - 5 + 6, () -> x.player(0, 0));
        CHECK.due("5: salt of 0", 3, () -> x.player(0, 1));
        CHECK.due("5: workers of 0", 4, () -> x.player(0, 5));
        CHECK.due("5: coins of 1", 5 - 2 - 1, () -> x.player(1, 0));
        CHECK.due("5: fish of 1", 0, () -> x.player(1, 2));
        CHECK.due("5: cloth of 1", 2, () -> x.player(1, 3));
        CHECK.due("5: room of 1", 9, () -> x.player(1, 4));
        CHECK.due("5: the round has ended", 1, () -> x.about(3));
        CHECK.due("5: the weather", 1, () -> x.about(2));
        CHECK.due("5: the text stays", 14, () -> x.clearText());
        // Weather 6, then 1: the fish of the one is sold for 3, a cloth of the other's two for 6.
        SaltMarket y = Markets.loaded("S200nnm11l1-m21");
        CHECK.due("5: coins of the fish", 5 + 3, () -> y.player(0, 0));
        CHECK.due("5: coins of the cloth", 5 - 1 + 6, () -> y.player(1, 0));
        CHECK.due("5: a cloth is left", 1, () -> y.player(1, 3));
        // Weather 2: of five fish three are woven, then two of the six cloth are sold.
        SaltMarket z = Markets.loaded("S210n-l3m22");
        CHECK.due("5: coins of two cloth", 5 - 3 + 6 + 5, () -> z.player(0, 0));
        CHECK.due("5: four cloth are left", 4, () -> z.player(0, 3));
        seedOf("S208", 8);
        seedOf("S380", 80);
        seedOf("S499", 99);
        seedOf("S415", 15);
    }

    private static void seedOf(String text, long seed) {
        SaltMarket x = Markets.loaded(text);
        SaltMarket y = Markets.begun(text.charAt(1) - '0', seed);
        Markets.type(y, text);
        CHECK.same("5: the game of " + text, View.of(y), View.of(x));
    }

    private static void loadLeavesOut() {
        CHECK.due("5: nothing to sell or weave", 12, () -> Markets.typed("S200l1l2l3m01m02m03m11m12m13m21m22m23").load());
        CHECK.due("5: too few coins for the second hall", 1, () -> Markets.typed("S200hhh").load());
        CHECK.due("5: a move between is left out", 1, () -> Markets.typed("S200pl1p").load());
        // Six rounds of two passings each, then two moves behind the end.
        SaltMarket x = Markets.typed("S200------------" + "-p");
        CHECK.due("5: behind the end of the game", 2, () -> x.load());
        CHECK.due("5: the game is over", 1, () -> x.about(4));
        CHECK.due("5: it has six rounds", 6, () -> x.about(3));
        SaltMarket y = Markets.typed("S400");
        CHECK.due("5: no moves", 0, () -> y.load());
    }

    private static void loadMakesAllAnew() {
        SaltMarket x = Markets.typed("S200p");
        x.set(0, 3);
        x.set(1, 0);
        x.set(2, 1);
        x.begin(4, 77);
        x.place(0, 0);
        x.save(0);
        x.save(1);
        CHECK.due("5: load()", 0, () -> x.load());
        CHECK.same("5: all is as in a new object", View.of(Markets.loaded("S200p")), View.of(x));
        CHECK.due("5: setting(0)", 6, () -> x.setting(0));
        CHECK.due("5: setting(1)", 1, () -> x.setting(1));
        CHECK.due("5: setting(2)", 2, () -> x.setting(2));
        CHECK.dueState("5: no state is remembered", x, () -> x.undo());
        CHECK.dueState("5: slot 0 is empty", x, () -> x.restore(0));
        CHECK.dueState("5: slot 1 is empty", x, () -> x.restore(1));
        x.set(0, 1);
        x.load();
        CHECK.dueState("5: load is no action", x, () -> x.undo());
    }

    private static void loadRefuses() {
        SaltMarket x = Markets.begun(3, 5);
        x.save(1);
        CHECK.dueState("5: load() of no text", x, () -> x.load());
        Markets.type(x, "S20");
        CHECK.dueState("5: load() of a text that ends too soon", x, () -> x.load());
        Markets.type(x, "0l");
        CHECK.dueState("5: load() of a move that ends too soon", x, () -> x.load());
        Markets.type(x, "4");
        CHECK.dueState("5: load() of a wrong move", x, () -> x.load());
        CHECK.due("5: the slot is kept", 3, () -> x.restore(1));
        SaltMarket y = Markets.typed("S2");
        y.begin(2, 1);
        y.set(0, 2);
        Check.answerOf(() -> y.load());
        CHECK.due("5: the remembered states are kept", 1, () -> y.undo());
    }
}
