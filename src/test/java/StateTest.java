/** Promises 6 to 9: about, player, worker, setting. */
public final class StateTest {
    private static final Check CHECK = new Check();

    public static void main(String[] args) {
        about();
        aboutBehindTheEnd();
        player();
        worker();
        setting();
        CHECK.end("StateTest");
    }

    private static void due(SaltMarket x, String name, int... wanted) {
        for (int what = 0; what < wanted.length; what++) {
            int k = what;
            CHECK.due("6: " + name + ": about(" + what + ")", wanted[what], () -> x.about(k));
        }
    }

    private static void duePlayer(SaltMarket x, String name, int p, int... wanted) {
        for (int what = 0; what < wanted.length; what++) {
            int k = what;
            CHECK.due("7: " + name + ": player(" + p + ", " + what + ")", wanted[what], () -> x.player(p, k));
        }
    }

    private static void about() {
        SaltMarket x = Markets.begun(3, 0);
        due(x, "begun", 3, 0, 6, 0, 0, 3, 3, 6, 0, 0, 0, 0);
        x.place(0, 0);
        x.place(0, 0);
        x.place(0, 0);
        due(x, "three at the pans", 3, 0, 6, 0, 0, 3, 3, 6, 0, 2, 1, 0);
        x.place(3, 3);
        due(x, "three salt sold", 3, 1, 6, 0, 0, 1, 3, 6, 0, 3, 1, 0);
        x.place(1, 0);
        due(x, "a fish", 3, 2, 6, 0, 0, 1, 3, 6, 0, 4, 1, 0);
        Markets.pass(x, 3);
        // The player 1 loses the fish: there are 6 salt too, and room for 6.
        due(x, "the round has ended", 3, 1, 1, 1, 0, 2, 4, 7, 1, 0, 1, 1);
        x.begin(2, 0);
        due(x, "begun again", 2, 0, 6, 0, 0, 3, 3, 6, 0, 0, 0, 0);
        CHECK.dueArgument("6: about(-1)", x, () -> x.about(-1));
        CHECK.dueArgument("6: about(12)", x, () -> x.about(12));
        CHECK.dueArgument("6: about(greatest)", x, () -> x.about(Integer.MAX_VALUE));
        SaltMarket none = new SaltMarket();
        CHECK.dueArgument("6: about(12) without a game", none, () -> none.about(12));
    }

    private static void aboutBehindTheEnd() {
        SaltMarket x = Markets.begun(2, 0);
        x.set(0, 1);
        Markets.pass(x, 2);
        due(x, "over", 2, -1, 1, 1, 1, 4, 4, 7, 1, 0, 0, 0);
        // Whether it is over is asked by the settings of now.
        x.set(0, 2);
        due(x, "goes on", 2, 1, 1, 1, 0, 4, 4, 7, 1, 0, 0, 0);
        x.place(0, 0);
        x.set(0, 1);
        due(x, "over within a round", 2, -1, 1, 1, 1, 4, 4, 7, 1, 1, 0, 0);
    }

    private static void player() {
        SaltMarket x = Markets.begun(2, 0);
        duePlayer(x, "begun", 0, 5, 0, 0, 0, 6, 3, 3, 0, 14);
        duePlayer(x, "begun", 1, 5, 0, 0, 0, 6, 3, 3, 0, 14);
        x.place(0, 0);
        x.place(1, 0);
        x.place(4, 0);
        x.place(2, 1);
        x.place(3, 2);
        x.place(5, 0);
        // Salt 6, two of them sold for 3 and 2; a hired worker.
        duePlayer(x, "three placings", 0, 5, 4, 0, 0, 6, 4, 1, 0, 5 + 4 + 12);
        // A fish and a coin are two cloth; two coins are a room of 9.
        duePlayer(x, "three placings", 1, 2, 0, 0, 2, 9, 3, 0, 0, 2 + 4 + 9);
        x.undo();
        x.pass();
        duePlayer(x, "passed", 1, 4, 0, 0, 2, 6, 3, 1, 1, 4 + 4 + 9);
        x.pass();
        duePlayer(x, "next round", 0, 5, 4, 0, 0, 6, 4, 4, 0, 21);
        duePlayer(x, "next round", 1, 4, 0, 0, 2, 6, 3, 3, 0, 17);
        CHECK.dueIndex("7: player(2, 0) of two", x, () -> x.player(2, 0));
        CHECK.dueIndex("7: player(-1, 0)", x, () -> x.player(-1, 0));
        CHECK.dueIndex("7: player(2, 9)", x, () -> x.player(2, 9));
        CHECK.dueArgument("7: player(1, 9)", x, () -> x.player(1, 9));
        CHECK.dueArgument("7: player(0, -1)", x, () -> x.player(0, -1));
        SaltMarket four = Markets.begun(4, 0);
        CHECK.due("7: player(3, 8)", 14, () -> four.player(3, 8));
        CHECK.dueIndex("7: player(4, 0)", four, () -> four.player(4, 0));
    }

    private static void worker() {
        SaltMarket x = Markets.begun(3, 0);
        x.set(2, 3);
        x.place(0, 0);
        x.place(5, 0);
        x.place(0, 0);
        x.place(0, 0);
        CHECK.due("8: the first one", 0, () -> x.worker(0, 0));
        CHECK.due("8: the second one", 2, () -> x.worker(0, 1));
        CHECK.due("8: the third one", 0, () -> x.worker(0, 2));
        CHECK.due("8: no fourth one", -1, () -> x.worker(0, 3));
        CHECK.due("8: at the store", 1, () -> x.worker(5, 0));
        CHECK.due("8: none there", -1, () -> x.worker(1, 0));
        CHECK.due("8: worker(5, greatest)", -1, () -> x.worker(5, Integer.MAX_VALUE));
        x.place(0, 0);
        CHECK.due("8: the bumped one is gone", 2, () -> x.worker(0, 0));
        CHECK.due("8: the others stand in their order", 0, () -> x.worker(0, 1));
        CHECK.due("8: the new one is the last", 1, () -> x.worker(0, 2));
        CHECK.dueIndex("8: worker(-1, 0)", x, () -> x.worker(-1, 0));
        CHECK.dueIndex("8: worker(6, 0)", x, () -> x.worker(6, 0));
        CHECK.dueIndex("8: worker(6, -1)", x, () -> x.worker(6, -1));
        CHECK.dueArgument("8: worker(0, -1)", x, () -> x.worker(0, -1));
        SaltMarket none = new SaltMarket();
        CHECK.due("8: worker(0, 0) without a game", -1, () -> none.worker(0, 0));
        CHECK.dueIndex("8: worker(6, 0) without a game", none, () -> none.worker(6, 0));
        CHECK.dueArgument("8: worker(0, -1) without a game", none, () -> none.worker(0, -1));
    }

    private static void setting() {
        SaltMarket x = new SaltMarket();
        x.set(0, 12);
        x.set(1, 5);
        x.set(2, 3);
        CHECK.due("9: setting(0)", 12, () -> x.setting(0));
        CHECK.due("9: setting(1)", 5, () -> x.setting(1));
        CHECK.due("9: setting(2)", 3, () -> x.setting(2));
        CHECK.dueArgument("9: setting(3)", x, () -> x.setting(3));
        CHECK.dueArgument("9: setting(-1)", x, () -> x.setting(-1));
    }
}
