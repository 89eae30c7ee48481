/** The boundary cases of the section "text" and of promises 1 to 5, sentence by sentence. */
public final class EdgesOfTextTest {
    private static final Check CHECK = new Check();
    private static final Twins TWINS = new Twins(CHECK);

    public static void main(String[] args) {
        newObject();
        codes();
        fullText();
        fullTextFirst();
        clearText();
        clearTextIsNoAction();
        firstSign();
        players();
        seed();
        moves();
        digitsOfLoom();
        digitsOfStall();
        blanks();
        tooSoon();
        firstOfSeveral();
        longestGame();
        errorPositionChangesNothing();
        loadRefuses();
        loadAsNew();
        loadKeepsText();
        loadLeavesOutNothing();
        loadLeavesOutImpossible();
        loadLeavesOutBehindEnd();
        loadDoesEachMove();
        loadTwice();
        loadIsNoAction();
        seedsOfText();
        CHECK.end("EdgesOfTextTest");
    }

    // Creates a market without a game. At first there is no game.
    private static void newObject() {
        for (int what = 0; what <= 11; what++) {
            int k = what;
            TWINS.due("1: about(" + what + ")", 0, SaltMarket::new, x -> x.about(k));
        }
        for (int p = -1; p <= 4; p++) {
            int k = p;
            TWINS.dueIndex("1: player(" + p + ", 0)", SaltMarket::new, x -> x.player(k, 0));
        }
        for (int place = 0; place <= 5; place++) {
            int k = place;
            TWINS.due("1: worker(" + place + ", 0)", -1, SaltMarket::new, x -> x.worker(k, 0));
        }
        TWINS.due("1: setting(0)", 6, SaltMarket::new, x -> x.setting(0));
        TWINS.due("1: setting(1)", 1, SaltMarket::new, x -> x.setting(1));
        TWINS.due("1: setting(2)", 2, SaltMarket::new, x -> x.setting(2));
        TWINS.due("1: the text is no game", 0, SaltMarket::new, x -> x.errorPosition());
        TWINS.due("1: the text is empty", 0, SaltMarket::new, x -> x.clearText());
        TWINS.dueState("1: nothing is remembered", SaltMarket::new, x -> x.undo());
        TWINS.dueState("1: slot 0 is empty", SaltMarket::new, x -> x.restore(0));
        TWINS.dueState("1: slot 1 is empty", SaltMarket::new, x -> x.restore(1));
        TWINS.dueState("1: no text to load", SaltMarket::new, x -> x.load());
        CHECK.same("1: NONE", "-1", "" + SaltMarket.NONE);
    }

    // c: character code, 0 to 255.
    private static void codes() {
        for (int c : new int[] {-1, 256, -255, 65536, Integer.MIN_VALUE, Integer.MAX_VALUE}) {
            TWINS.dueArgument("2: append(" + c + ")", Markets::rich, x -> x.append(c));
            TWINS.dueArgument("2: append(" + c + ") to an empty text", SaltMarket::new, x -> x.append(c));
        }
        for (int c = 0; c <= 255; c++) {
            int code = c;
            SaltMarket x = Markets.typed("S2");
            CHECK.due("2: append(" + c + ")", 3, () -> x.append(code));
            CHECK.due("2: length behind append(" + c + ")", 3, () -> x.clearText());
        }
    }

    private static SaltMarket withLength(int length) {
        return Markets.typed("S200" + "-".repeat(length - 4));
    }

    // The object has a text buffer of at most 120 characters.
    private static void fullText() {
        CHECK.due("2: the 119th", 119, () -> withLength(118).append('p'));
        CHECK.due("2: the 120th", 120, () -> withLength(119).append('p'));
        TWINS.dueState("2: the 121st", () -> withLength(120), x -> x.append('p'));
        TWINS.dueState("2: append(0) to a full text", () -> withLength(120), x -> x.append(0));
        TWINS.dueState("2: append(255) to a full text", () -> withLength(120), x -> x.append(255));
        SaltMarket x = withLength(120);
        x.clearText();
        CHECK.due("2: an emptied text takes characters again", 1, () -> x.append('S'));
    }

    // If several exceptions apply to a call, the one that its description names first is thrown.
    private static void fullTextFirst() {
        TWINS.dueArgument("2: append(256) to a full text", () -> withLength(120), x -> x.append(256));
        TWINS.dueArgument("2: append(-1) to a full text", () -> withLength(120), x -> x.append(-1));
    }

    // Returns the previous length of the text.
    private static void clearText() {
        CHECK.due("3: of an empty text", 0, () -> new SaltMarket().clearText());
        CHECK.due("3: of one character", 1, () -> Markets.typed("S").clearText());
        CHECK.due("3: of 120 characters", 120, () -> withLength(120).clearText());
        SaltMarket x = withLength(120);
        x.clearText();
        CHECK.due("3: a second time", 0, () -> x.clearText());
        CHECK.due("3: nothing of the text is left", 0, () -> x.errorPosition());
        Markets.type(x, "S");
        CHECK.due("3: nothing of it comes back", 1, () -> x.errorPosition());
    }

    // The text is no part of the state, and clearText no action.
    private static void clearTextIsNoAction() {
        SaltMarket x = Markets.rich();
        SaltMarket y = Markets.rich();
        x.clearText();
        CHECK.same("3: the remembered states stay", Twins.remembered(y).replaceAll(" e[-0-9]+", ""),
            Twins.remembered(x).replaceAll(" e[-0-9]+", ""));
        CHECK.same("3: the slots stay", Twins.slots(y).replaceAll(" e[-0-9]+", ""),
            Twins.slots(x).replaceAll(" e[-0-9]+", ""));
    }

    private static void fault(String signs, int want) {
        SaltMarket x = Markets.typed(signs);
        CHECK.due("4: errorPosition() of '" + signs + "'", want, () -> x.errorPosition());
    }

    /** Behind the head each of the 256 characters is tried: those allowed make no fault at their place. */
    private static void allowed(String head, String wanted) {
        for (int c = 0; c <= 255; c++) {
            SaltMarket x = Markets.typed(head);
            x.append(c);
            boolean fine = wanted.indexOf(c) >= 0;
            String name = "4: character " + c + " behind '" + head + "'";
            CHECK.same(name, "" + !fine, "" + (x.errorPosition() == head.length()));
        }
    }

    // A game as a text is the letter S, ..
    private static void firstSign() {
        fault("s200", 0);
        fault("R200", 0);
        fault("T200", 0);
        fault("2S00", 0);
        fault("SS200", 1);
        allowed("", "S");
    }

    // .. a digit for the players (2 to 4), ..
    private static void players() {
        fault("S100", 1);
        fault("S200", -1);
        fault("S300", -1);
        fault("S400", -1);
        fault("S500", 1);
        fault("S-00", 1);
        allowed("S", "234");
    }

    // .. two digits for the seed (00 to 99), ..
    private static void seed() {
        fault("S400", -1);
        fault("S409", -1);
        fault("S490", -1);
        fault("S499", -1);
        fault("S4/0", 2);
        fault("S4:0", 2);
        fault("S40/", 3);
        fault("S40:", 3);
        fault("S4100", 4);
        allowed("S4", "0123456789");
        allowed("S49", "0123456789");
    }

    // .. and then any number of moves: p, n, h, r; l and a digit; m and two digits; or a minus sign.
    private static void moves() {
        fault("S200", -1);
        for (String move : new String[] {"p", "n", "h", "r", "-", "l1", "l3", "m01", "m23"}) {
            fault("S200" + move, -1);
            fault("S200" + move + move, -1);
            allowed("S200" + move, "pnhrlm-");
        }
        allowed("S200", "pnhrlm-");
        fault("S2001", 4);
        fault("S200p1", 5);
        fault("S200-1", 5);
    }

    // l and a digit (1 to 3).
    private static void digitsOfLoom() {
        fault("S200l0", 5);
        fault("S200l1", -1);
        fault("S200l2", -1);
        fault("S200l3", -1);
        fault("S200l4", 5);
        fault("S200l12", 6);
        allowed("S200l", "123");
        allowed("S200pl", "123");
    }

    // m, a digit for a good (0 to 2), and a digit (1 to 3).
    private static void digitsOfStall() {
        for (char good = '0'; good <= '2'; good++) {
            fault("S200m" + good + "0", 6);
            fault("S200m" + good + "1", -1);
            fault("S200m" + good + "2", -1);
            fault("S200m" + good + "3", -1);
            fault("S200m" + good + "4", 6);
            allowed("S200m" + good, "123");
        }
        fault("S200m31", 5);
        fault("S200m/1", 5);
        fault("S200m011", 7);
        allowed("S200m", "012");
    }

    // There are no blanks.
    private static void blanks() {
        String game = "S200pl1m01-";
        for (int at = 0; at <= game.length(); at++) {
            fault(game.substring(0, at) + " " + game.substring(at), at);
        }
    }

    // If the text ends too soon, it is the length of the text.
    private static void tooSoon() {
        fault("", 0);
        fault("S", 1);
        fault("S2", 2);
        fault("S20", 3);
        fault("S200l", 5);
        fault("S200m", 5);
        fault("S200m0", 6);
        fault("S200p-l", 7);
        fault("S200p-m2", 8);
    }

    // The error position is the index of the first character that these rules do not allow at its place.
    private static void firstOfSeveral() {
        fault("x9xx", 0);
        fault("S9xx", 1);
        fault("S2xx", 2);
        fault("S20xx", 3);
        fault("S200xx", 4);
        fault("S200l9m99", 5);
        fault("S200m99", 5);
        fault("S200m09x", 6);
        fault("S200pxpx", 5);
        fault("S200l", 5);
    }

    // At most 120 characters: the last one is looked at like the others.
    private static void longestGame() {
        String most = "S200" + "p".repeat(115);
        fault(most + "-", -1);
        fault(most + "x", 119);
        fault(most + "l", 120);
        fault(most + "m", 120);
        fault("S200" + "p".repeat(114) + "m2", 120);
        fault("S200" + "p".repeat(114) + "l3", -1);
        fault("S200" + "p".repeat(114) + "l4", 119);
        fault("S200" + "p".repeat(113) + "m23", -1);
        fault("S200" + "p".repeat(113) + "m24", 119);
        fault("S200" + "p".repeat(113) + "m33", 118);
    }

    // Checks the text.
    private static void errorPositionChangesNothing() {
        TWINS.due("4: of a game", -1, Markets::rich, x -> x.errorPosition());
        TWINS.due("4: of no game", 3, Markets::withoutGame, x -> x.errorPosition());
    }

    // Throws IllegalStateException if the text is not a game.
    private static void loadRefuses() {
        for (String text : new String[] {"", "S", "S2", "S20", "s200", "S100", "S200 ", "S200l", "S200m1", "S200pm03x"}) {
            TWINS.dueState("5: load() of '" + text + "'", () -> withText(text), x -> x.load());
        }
    }

    private static SaltMarket withText(String text) {
        SaltMarket x = Markets.rich();
        x.clearText();
        Markets.type(x, text);
        return x;
    }

    // Makes everything as in a new object. Behind it no state is remembered, and both save slots are empty.
    private static void loadAsNew() {
        for (Twins.Maker maker : new Twins.Maker[] {Markets::rich, Markets::over, Markets::withoutGame}) {
            SaltMarket x = maker.make();
            x.clearText();
            Markets.type(x, "S499-p");
            x.load();
            CHECK.same("5: as in a new object", View.of(Markets.loaded("S499-p")), View.of(x));
            CHECK.due("5: setting(0)", 6, () -> x.setting(0));
            CHECK.due("5: setting(1)", 1, () -> x.setting(1));
            CHECK.due("5: setting(2)", 2, () -> x.setting(2));
            CHECK.due("5: four players", 4, () -> x.about(0));
            CHECK.dueState("5: no state is remembered", x, () -> x.undo());
            CHECK.dueState("5: slot 0 is empty", x, () -> x.restore(0));
            CHECK.dueState("5: slot 1 is empty", x, () -> x.restore(1));
        }
    }

    // Keeps the text.
    private static void loadKeepsText() {
        SaltMarket x = withLength(120);
        x.load();
        CHECK.due("5: the text stays a game", -1, () -> x.errorPosition());
        CHECK.dueState("5: the text stays full", x, () -> x.append('p'));
        CHECK.due("5: its length stays", 120, () -> x.clearText());
        SaltMarket y = Markets.loaded("S200p");
        CHECK.due("5: the text can be added to", 6, () -> y.append('n'));
        CHECK.due("5: and loaded again", 0, () -> y.load());
        CHECK.due("5: both moves are done", 2, () -> y.about(9));
    }

    // Returns the number of moves (passing included) that are left out: 0, if none is.
    private static void loadLeavesOutNothing() {
        CHECK.due("5: no moves", 0, () -> Markets.typed("S200").load());
        CHECK.due("5: passing is possible", 0, () -> Markets.typed("S200-").load());
        CHECK.due("5: moves of several characters", 0, () -> Markets.typed("S200pnm03l1").load());
    }

    // Moves that are not possible are left out.
    private static void loadLeavesOutImpossible() {
        CHECK.due("5: a move of two characters", 1, () -> Markets.typed("S200l1").load());
        CHECK.due("5: a move of three characters", 1, () -> Markets.typed("S200m01").load());
        SaltMarket x = Markets.loaded("S200hhm01p");
        CHECK.due("5: it stays the turn of the same player", 2, () -> Markets.typed("S200hhm01l1p").load());
        CHECK.due("5: the player 0 placed behind the one left out", 0, () -> x.worker(0, 0));
        CHECK.due("5: one each at the hall", 1, () -> x.worker(4, 1));
    }

    // .. and so is all behind the end of the game.
    private static void loadLeavesOutBehindEnd() {
        String six = "------------";
        CHECK.due("5: just to the end", 0, () -> Markets.typed("S200" + six).load());
        CHECK.due("5: passing behind the end", 1, () -> Markets.typed("S200" + six + "-").load());
        CHECK.due("5: all kinds behind the end", 7, () -> Markets.typed("S200" + six + "pnhr-l1m01").load());
        SaltMarket x = Markets.loaded("S200" + six + "p-");
        CHECK.due("5: it is over", 1, () -> x.about(4));
        CHECK.due("5: six rounds have ended", 6, () -> x.about(3));
        CHECK.due("5: no worker is placed", 0, () -> x.about(9));
        CHECK.due("5: as many as fit", 116 - 12, () -> withLength(120).load());
    }

    // p, n, h, r (pans, pier, hall, store); l and a digit; m, a digit for a good, and a digit; - for passing.
    private static void loadDoesEachMove() {
        for (String moves : new String[] {"", "p", "n", "h", "r", "-", "pn-", "n-l1", "n-l2", "n-l3", "ppm01", "n-m11",
            "n-m12", "n-m13", "n-l3m21", "n-l3m22", "n-l3m23", "npl3pm21", "npl3pm22", "npl3pm23", "p-m02", "nnm11m12"}) {
            String text = "S210" + moves;
            SaltMarket done = Markets.moved(2, 10, moves);
            Markets.type(done, text);
            CHECK.due("5: " + text, 0, () -> Markets.typed(text).load());
            CHECK.same("5: the game of " + text, View.of(done), View.of(Markets.loaded(text)));
        }
        for (String moves : new String[] {"p-m01", "p-m02", "p-m03"}) {
            SaltMarket done = Markets.moved(3, 0, moves.replace("-", "--"));
            Markets.type(done, "S300" + moves.replace("-", "--"));
            CHECK.same("5: the game of " + moves, View.of(done),
                View.of(Markets.loaded("S300" + moves.replace("-", "--"))));
        }
    }

    // Makes everything as in a new object: also what an earlier load made.
    private static void loadTwice() {
        SaltMarket x = Markets.typed("S200pl1n");
        CHECK.due("5: the first time", 1, () -> x.load());
        String once = View.of(x);
        CHECK.due("5: the second time", 1, () -> x.load());
        CHECK.same("5: the second time is like the first", once, View.of(x));
    }

    // load and restore are not actions.
    private static void loadIsNoAction() {
        SaltMarket x = Markets.loaded("S200pn");
        CHECK.dueState("15: load is not remembered", x, () -> x.undo());
        x.pass();
        CHECK.due("15: only the action behind it is", 0, () -> x.undo());
        CHECK.due("15: it is taken back to the loaded game", 2, () -> x.about(9));
    }

    // Two digits for the seed (00 to 99): both count.
    private static void seedsOfText() {
        for (int seed : new int[] {0, 1, 9, 10, 42, 90, 99}) {
            String digits = "" + seed / 10 + seed % 10;
            SaltMarket x = Markets.loaded("S3" + digits);
            SaltMarket y = Markets.begun(3, seed);
            Markets.type(y, "S3" + digits);
            CHECK.same("5: the seed " + digits, View.of(y), View.of(x));
        }
    }
}
