import java.util.ArrayList;
import java.util.List;

/** The boundary cases of "actions and undo" and "exceptions", and of promises 15, 24 and 25. */
public final class EdgesOfUndoTest {
    private static final Check CHECK = new Check();
    private static final Twins TWINS = new Twins(CHECK);
    private static final int[] NO_SLOTS = {-1, 2, 3, Integer.MIN_VALUE, Integer.MAX_VALUE};
    private static final Twins.Maker[] STATES = {Markets::rich, Markets::over, Markets::withoutGame};

    public static void main(String[] args) {
        eachActionIsRemembered();
        alsoIfNothingChanges();
        undoIsNoAction();
        refusedCallsAreNoActions();
        otherCallsAreNoActions();
        fourteen();
        oldestForgotten();
        roundAndRound();
        nothingRemembered();
        backToNoGame();
        backFromTheEnd();
        everythingComesBack();
        textStays();
        slotsStay();
        loadForgets();
        restoreForgets();
        slotsThatAreNot();
        emptySlots();
        sinceTheLastLoad();
        saveAnswers();
        slotKeepsIt();
        savedOverAnother();
        slotsAreApart();
        saveChangesNothing();
        restoreTakesAll();
        restoreOfNoGame();
        CHECK.end("EdgesOfUndoTest");
    }

    private static void due(String what, int want, int got) {
        CHECK.same(what, "" + want, "" + got);
    }

    private static String viewWithoutText(SaltMarket x) {
        return View.of(x).replaceAll(" e[-0-9]+$", "");
    }

    // Each call of one of them that does not throw an exception is an action.
    private static void eachActionIsRemembered() {
        Twins.Use[] actions = {x -> x.begin(2, 7), x -> x.place(0, 0), x -> x.pass(), x -> x.play(), x -> x.set(1, 3)};
        for (int i = 0; i < actions.length; i++) {
            SaltMarket x = Markets.loaded("S300pn");
            String before = View.of(x);
            actions[i].on(x);
            due("15: undo() of action " + i, 0, x.undo());
            CHECK.same("15: the state ahead of action " + i, before, View.of(x));
            CHECK.dueState("15: action " + i + " was the only one", x, () -> x.undo());
        }
    }

    // .. also if nothing becomes different.
    private static void alsoIfNothingChanges() {
        SaltMarket x = new SaltMarket();
        for (int what = 0; what <= 2; what++) {
            String before = View.of(x);
            x.set(what, x.setting(what));
            CHECK.same("14: nothing becomes different", before, View.of(x));
        }
        x.begin(2, 5);
        x.begin(2, 5);
        due("15: the second begin", 4, x.undo());
        due("15: its game is still there", 2, x.about(0));
        due("15: the first begin", 3, x.undo());
        due("15: set(2, 2)", 2, x.undo());
        due("15: set(1, 1)", 1, x.undo());
        due("15: set(0, 6)", 0, x.undo());
    }

    // (undo is none).
    private static void undoIsNoAction() {
        SaltMarket x = new SaltMarket();
        x.set(0, 1);
        x.set(0, 2);
        x.set(0, 3);
        due("15: the first undo", 2, x.undo());
        due("15: the second undo goes further back", 1, x.undo());
        due("9: it is not taken back itself", 1, x.setting(0));
        x.set(0, 9);
        due("15: an action behind it", 1, x.undo());
        due("9: the state ahead of that action", 1, x.setting(0));
        due("15: and further back", 0, x.undo());
        due("9: the first one", 6, x.setting(0));
    }

    private static void refusedCallsAreNoActions() {
        SaltMarket x = Markets.loaded("S200");
        Twins.Use[] refused = {y -> y.begin(1, 0), y -> y.place(6, 0), y -> y.place(0, 1), y -> y.place(2, 1),
            y -> y.set(0, 0), y -> y.set(3, 1), y -> y.restore(0), y -> y.restore(2), y -> y.append(256)};
        for (Twins.Use call : refused) {
            CHECK.same("15: it is refused", "throws.", Check.answerOf(() -> call.on(x)).substring(0, 7));
            CHECK.dueState("15: nothing is remembered", x, () -> x.undo());
        }
    }

    // The methods in the section "actions" change the state; the others are no actions.
    private static void otherCallsAreNoActions() {
        Twins.Use[] others = {x -> x.append('p'), x -> x.clearText(), x -> x.errorPosition(), x -> x.about(1),
            x -> x.player(0, 0), x -> x.worker(0, 0), x -> x.setting(0), x -> x.brings(0, 0), x -> x.bumps(0),
            x -> x.best(0), x -> x.loses(0, 0), x -> x.goesOn(0), x -> x.weather(1), x -> x.runScript(1, 3000),
            x -> x.simulate(1, 80), x -> x.save(0)};
        for (int i = 0; i < others.length; i++) {
            SaltMarket x = Markets.loaded("S300pn");
            String before = viewWithoutText(x);
            CHECK.same("15: call " + i + " is possible", "false", "" + Check.answerOf(answer(others[i], x)).startsWith("throws."));
            CHECK.same("15: call " + i + " does not change the state", before, viewWithoutText(x));
            CHECK.dueState("15: call " + i + " is not remembered", x, () -> x.undo());
        }
    }

    private static Check.Call answer(Twins.Use use, SaltMarket x) {
        return () -> use.on(x);
    }

    /** Actions, each of which makes another state: the game of the seed 1, of the seed 2, and so on. */
    private static SaltMarket acted(int actions) {
        SaltMarket x = new SaltMarket();
        for (int i = 1; i <= actions; i++) {
            x.begin(2, i);
        }
        return x;
    }

    /** It is the game of the seed, by the weather to come; 0 stands for no game. */
    private static void dueSeed(String what, int seed, SaltMarket x) {
        SaltMarket y = seed == 0 ? new SaltMarket() : Markets.begun(2, seed);
        StringBuilder wanted = new StringBuilder();
        StringBuilder got = new StringBuilder();
        for (int n = 1; n <= 12; n++) {
            wanted.append(y.weather(n)).append(' ');
            got.append(x.weather(n)).append(' ');
        }
        CHECK.same(what, wanted.toString(), got.toString());
    }

    // At most 14 states are remembered.
    private static void fourteen() {
        for (int actions = 1; actions <= 14; actions++) {
            SaltMarket x = acted(actions);
            for (int left = actions - 1; left >= 0; left--) {
                due("15: undo() of one of " + actions, left, x.undo());
                dueSeed("15: the state behind action " + left + " of " + actions, left, x);
            }
            CHECK.dueState("15: " + actions + " are taken back", x, () -> x.undo());
        }
    }

    // When one more is remembered, the oldest one is forgotten.
    private static void oldestForgotten() {
        for (int actions = 15; actions <= 31; actions++) {
            SaltMarket x = acted(actions);
            for (int left = 13; left >= 0; left--) {
                due("15: undo() of one of " + actions, left, x.undo());
                dueSeed("15: the state, " + left + " left of " + actions, actions - 14 + left, x);
            }
            CHECK.dueState("15: fourteen of " + actions + " are taken back", x, () -> x.undo());
            dueSeed("15: the oldest ones of " + actions + " are forgotten", actions - 14, x);
        }
    }

    /** Actions and undo by turns, beside a list of what should be remembered. */
    private static void roundAndRound() {
        SaltMarket x = new SaltMarket();
        List<Integer> remembered = new ArrayList<>();
        int now = 0;
        for (int step = 1; step <= 200; step++) {
            boolean back = step % 17 > 11 || step % 5 == 0;
            if (back && !remembered.isEmpty()) {
                now = remembered.remove(remembered.size() - 1);
                due("15: undo() in step " + step, remembered.size(), x.undo());
            } else {
                remembered.add(now);
                if (remembered.size() > 14) {
                    remembered.remove(0);
                }
                now = step;
                x.begin(2, step);
            }
            dueSeed("15: the state in step " + step, now, x);
        }
    }

    // Throws IllegalStateException if none is remembered.
    private static void nothingRemembered() {
        TWINS.dueState("15: in a new object", SaltMarket::new, x -> x.undo());
        TWINS.dueState("15: behind load", () -> Markets.loaded("S200pn"), x -> x.undo());
        TWINS.dueState("15: when all is taken back", () -> {
            SaltMarket x = Markets.rich();
            Markets.countRemembered(x);
            return x;
        }, x -> x.undo());
        TWINS.dueState("15: behind restore", () -> {
            SaltMarket x = Markets.rich();
            x.restore(0);
            return x;
        }, x -> x.undo());
    }

    // The state consists of everything but the text and the save slots: also of whether there is a game.
    private static void backToNoGame() {
        SaltMarket x = new SaltMarket();
        x.begin(4, 9);
        Markets.move(x, "pnh");
        for (int left = 3; left >= 0; left--) {
            due("15: states left", left, x.undo());
        }
        CHECK.same("15: as in a new object", View.of(new SaltMarket()), View.of(x));
        CHECK.dueIndex("7: there are no players", x, () -> x.player(0, 0));
        CHECK.dueState("12: there is no game", x, () -> x.pass());
    }

    private static void backFromTheEnd() {
        SaltMarket x = Markets.begun(2, 0);
        x.set(0, 1);
        Markets.move(x, "pp-");
        String before = View.of(x);
        due("12: the game is over", -1, x.pass());
        due("15: undo() of the last passing", 5, x.undo());
        CHECK.same("15: the round goes on", before, View.of(x));
        due("15: it is the turn again", 1, x.about(1));
    }

    /** Every kind of change is taken back: die, prices, goods, rooms, workers, passing, bumping, losing, rounds. */
    private static void everythingComesBack() {
        SaltMarket x = Markets.begun(2, 0);
        x.set(2, 1);
        List<String> views = new ArrayList<>();
        for (String move : List.of("p", "p", "n", "r", "m02", "-", "-", "n", "l1", "p", "h", "-", "m21", "-")) {
            views.add(View.of(x));
            Markets.move(x, move);
        }
        due("6: rounds have ended", 3, x.about(3));
        due("6: one was bumped", 1, x.about(10));
        CHECK.same("6: goods were lost", "true", "" + (x.about(11) > 0));
        for (int i = views.size() - 1; i >= 0; i--) {
            x.undo();
            CHECK.same("15: the state ahead of move " + i, views.get(i), View.of(x));
        }
    }

    private static void textStays() {
        SaltMarket x = Markets.typed("S2");
        x.begin(2, 0);
        Markets.type(x, "00");
        x.pass();
        Markets.type(x, "p");
        x.undo();
        x.undo();
        due("15: the text is no part of the state", -1, x.errorPosition());
        due("15: its length stays", 5, x.clearText());
        x.set(0, 3);
        x.undo();
        due("15: a cleared text does not come back", 0, x.clearText());
    }

    private static void slotsStay() {
        SaltMarket x = new SaltMarket();
        x.begin(3, 4);
        x.save(0);
        x.pass();
        x.save(1);
        x.undo();
        x.undo();
        due("15: no game", 0, x.about(0));
        due("15: the slot 1 is no part of the state", 3, x.restore(1));
        due("15: it holds what was saved", 1, x.about(1));
        due("15: nor is the slot 0", 3, x.restore(0));
        due("15: it holds the earlier one", 0, x.about(1));
    }

    // load is not an action, and behind it no state is remembered.
    private static void loadForgets() {
        SaltMarket x = acted(14);
        Markets.type(x, "S200");
        x.load();
        CHECK.dueState("5: nothing is remembered", x, () -> x.undo());
        x.pass();
        due("15: then one is", 0, x.undo());
        due("15: the loaded game", 6, x.about(2));
    }

    // restore forgets all remembered states, and is no action.
    private static void restoreForgets() {
        SaltMarket x = acted(14);
        x.save(0);
        x.restore(0);
        CHECK.dueState("25: nothing is remembered", x, () -> x.undo());
        x.pass();
        due("15: then one is", 0, x.undo());
        dueSeed("15: the restored state", 14, x);
        CHECK.dueState("15: no more", x, () -> x.undo());
    }

    // Throws IndexOutOfBoundsException if there is no such save slot (0 or 1).
    private static void slotsThatAreNot() {
        for (Twins.Maker maker : STATES) {
            for (int slot : NO_SLOTS) {
                TWINS.dueIndex("24: save(" + slot + ")", maker, x -> x.save(slot));
                TWINS.dueIndex("25: restore(" + slot + ")", maker, x -> x.restore(slot));
            }
        }
        TWINS.dueIndex("25: restore(2), where nothing is saved", SaltMarket::new, x -> x.restore(2));
        TWINS.dueIndex("25: restore(-1), where nothing is saved", SaltMarket::new, x -> x.restore(-1));
    }

    // Throws IllegalStateException if nothing has been saved in it.
    private static void emptySlots() {
        for (int slot = 0; slot <= 1; slot++) {
            int empty = slot;
            TWINS.dueState("25: in a new object", SaltMarket::new, x -> x.restore(empty));
            TWINS.dueState("25: only the other one is filled", () -> {
                SaltMarket x = acted(3);
                x.save(1 - empty);
                return x;
            }, x -> x.restore(empty));
        }
    }

    // .. since the last load.
    private static void sinceTheLastLoad() {
        Twins.Maker maker = () -> {
            SaltMarket x = Markets.rich();
            x.load();
            return x;
        };
        TWINS.dueState("25: slot 0 behind load", maker, x -> x.restore(0));
        TWINS.dueState("25: slot 1 behind load", maker, x -> x.restore(1));
        SaltMarket x = maker.make();
        due("24: save behind load", 3, x.save(1));
        due("25: what was saved since", 3, x.restore(1));
        CHECK.dueState("25: the other one stays empty", x, () -> x.restore(0));
        SaltMarket y = Markets.begun(4, 0);
        y.save(0);
        Markets.type(y, "S20");
        Check.answerOf(() -> y.load());
        due("25: a load that is refused empties nothing", 4, y.restore(0));
    }

    // Returns the players, 0 without a game.
    private static void saveAnswers() {
        for (int slot = 0; slot <= 1; slot++) {
            SaltMarket none = new SaltMarket();
            due("24: without a game", 0, none.save(slot));
            due("25: without a game", 0, none.restore(slot));
            for (int players = 2; players <= 4; players++) {
                SaltMarket x = Markets.begun(players, 0);
                due("24: players", players, x.save(slot));
                x.begin(6 - players, 0);
                due("25: players", players, x.restore(slot));
            }
            SaltMarket over = Markets.over();
            due("24: when it is over", 3, over.save(slot));
            due("25: when it is over", 3, over.restore(slot));
            due("6: it is still over", 1, over.about(4));
        }
    }

    // The save slot keeps it.
    private static void slotKeepsIt() {
        SaltMarket x = Markets.rich();
        x.save(0);
        String saved = View.of(x);
        for (int i = 0; i < 4; i++) {
            x.play();
            x.set(1, i);
            x.set(2, 1 + i % 3);
            x.begin(2 + i % 3, i);
            Markets.move(x, "pn");
            x.restore(0);
            CHECK.same("25: as it was saved, time " + i, saved, View.of(x));
        }
        x.pass();
        x.undo();
        x.restore(0);
        CHECK.same("25: behind undo", saved, View.of(x));
    }

    // Stores the present state in a save slot.
    private static void savedOverAnother() {
        SaltMarket x = Markets.begun(2, 0);
        x.save(0);
        x.pass();
        String later = View.of(x);
        x.save(0);
        x.pass();
        x.restore(0);
        CHECK.same("24: the later one", later, View.of(x));
        x.restore(0);
        x.save(0);
        x.restore(0);
        CHECK.same("24: the same one again", later, View.of(x));
    }

    private static void slotsAreApart() {
        SaltMarket x = new SaltMarket();
        x.save(0);
        x.begin(4, 1);
        x.save(1);
        due("25: slot 0", 0, x.restore(0));
        due("6: without a game", 0, x.about(0));
        due("25: slot 1", 4, x.restore(1));
        due("25: slot 0 again", 0, x.restore(0));
    }

    private static void saveChangesNothing() {
        for (Twins.Maker maker : STATES) {
            for (int slot = 0; slot <= 1; slot++) {
                SaltMarket x = maker.make();
                SaltMarket y = maker.make();
                x.save(slot);
                CHECK.same("24: the state stays", View.of(y), View.of(x));
                CHECK.same("24: the remembered states stay", Twins.remembered(y), Twins.remembered(x));
            }
        }
    }

    // Replaces the state: the die, the settings and all counters too; the text stays.
    private static void restoreTakesAll() {
        SaltMarket x = Markets.rich();
        x.save(1);
        String saved = View.of(x);
        x.set(0, 12);
        x.set(1, 5);
        x.set(2, 3);
        x.begin(4, Long.MIN_VALUE);
        Markets.move(x, "pppph----");
        x.restore(1);
        CHECK.same("25: everything", saved, View.of(x));
        Markets.type(x, "pp");
        x.restore(1);
        due("25: the text stays", Markets.rich().clearText() + 2, x.clearText());
    }

    private static void restoreOfNoGame() {
        SaltMarket x = new SaltMarket();
        x.set(0, 9);
        x.save(1);
        x.begin(3, 3);
        Markets.move(x, "pnp");
        due("25: players", 0, x.restore(1));
        due("9: the settings belong to the state", 9, x.setting(0));
        due("6: no game", 0, x.about(2));
        due("8: nobody is at the pans", -1, x.worker(0, 0));
        due("21: no weather", -1, x.weather(1));
        CHECK.dueIndex("7: no players", x, () -> x.player(0, 0));
    }
}
