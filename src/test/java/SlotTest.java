/** Promises 24 and 25: save and restore. */
public final class SlotTest {
    private static final Check CHECK = new Check();

    public static void main(String[] args) {
        refuses();
        savesAndRestores();
        forgets();
        keeps();
        CHECK.end("SlotTest");
    }

    private static void refuses() {
        SaltMarket x = Markets.begun(2, 0);
        CHECK.dueIndex("24: save(-1)", x, () -> x.save(-1));
        CHECK.dueIndex("24: save(2)", x, () -> x.save(2));
        CHECK.dueIndex("25: restore(-1)", x, () -> x.restore(-1));
        CHECK.dueIndex("25: restore(2)", x, () -> x.restore(2));
        CHECK.dueState("25: restore(0) of nothing", x, () -> x.restore(0));
        CHECK.dueState("25: restore(1) of nothing", x, () -> x.restore(1));
        x.save(1);
        CHECK.dueState("25: restore(0), where only 1 is saved", x, () -> x.restore(0));
        CHECK.due("25: a restore that throws forgets nothing", 0, () -> x.undo());
    }

    private static void savesAndRestores() {
        SaltMarket x = new SaltMarket();
        CHECK.due("24: save without a game", 0, () -> x.save(0));
        x.set(1, 4);
        x.begin(3, 2026);
        x.play();
        x.play();
        CHECK.due("24: save of a game of three", 3, () -> x.save(1));
        String saved = View.of(x);
        x.set(0, 2);
        x.set(2, 1);
        for (int i = 0; i < 9; i++) {
            x.play();
        }
        x.begin(4, 5);
        CHECK.due("25: restore of a game of three", 3, () -> x.restore(1));
        CHECK.same("25: the state is as it was", saved, View.of(x));
        CHECK.due("25: restore without a game", 0, () -> x.restore(0));
        CHECK.same("25: all is as in a new object", View.of(new SaltMarket()), View.of(x));
        CHECK.due("25: the first setting again", 1, () -> x.setting(1));
        CHECK.due("25: the other slot", 3, () -> x.restore(1));
        CHECK.same("25: the other state", saved, View.of(x));
        x.begin(2, 0);
        CHECK.due("24: save over another", 2, () -> x.save(1));
        String second = View.of(x);
        x.pass();
        x.restore(1);
        CHECK.same("25: the later one is restored", second, View.of(x));
    }

    private static void forgets() {
        SaltMarket x = Markets.begun(2, 0);
        x.pass();
        x.save(0);
        x.pass();
        CHECK.due("24: save is no action", 1 + 1, () -> x.undo());
        x.restore(0);
        CHECK.dueState("25: the remembered states are forgotten", x, () -> x.undo());
        x.pass();
        CHECK.due("25: what comes then is remembered", 0, () -> x.undo());
        CHECK.due("25: it is taken back to what was restored", 1, () -> x.about(1));
    }

    private static void keeps() {
        SaltMarket x = Markets.begun(2, 0);
        x.save(0);
        String saved = View.of(x);
        for (int i = 0; i < 3; i++) {
            x.place(0, 0);
            x.set(0, 1 + i);
            x.restore(0);
            CHECK.same("25: the slot keeps it", saved, View.of(x));
        }
        Markets.type(x, "S2");
        x.restore(0);
        CHECK.due("25: the text stays", 2, () -> x.clearText());
        x.begin(4, 9);
        x.undo();
        CHECK.due("25: undo() leaves the slot", 2, () -> x.restore(0));
    }
}
