/** Promises 22 and 23: runScript and simulate. */
public final class ScriptTest {
    private static final Check CHECK = new Check();
    private static final int FAILS = 0;
    private static final int SUCCEEDS = -1;

    public static void main(String[] args) {
        arguments();
        placeCommand();
        passAndPlayCommands();
        setCommand();
        totalCommand();
        workersCommand();
        priceCommand();
        turnCommand();
        goodsCommand();
        otherGroups();
        oneBehindTheOther();
        withoutGame();
        simulateArguments();
        simulateByHand();
        simulateLikeTurns();
        CHECK.end("ScriptTest");
    }

    /** The script answers what is due, and changes nothing. */
    private static void due(String name, int want, SaltMarket x, int n, long script) {
        String before = View.of(x);
        CHECK.due("22: " + name + ": " + script, want, () -> x.runScript(n, script));
        CHECK.same("22: " + name + " changes nothing", before, View.of(x));
    }

    private static void arguments() {
        SaltMarket x = Markets.begun(2, 0);
        CHECK.dueArgument("22: n is 0", x, () -> x.runScript(0, 0));
        CHECK.dueArgument("22: n is 4", x, () -> x.runScript(4, 3000));
        CHECK.dueArgument("22: n is -1", x, () -> x.runScript(-1, 3000));
        CHECK.dueArgument("22: a negative script", x, () -> x.runScript(1, -1));
        CHECK.dueArgument("22: the least script", x, () -> x.runScript(3, Long.MIN_VALUE));
        CHECK.dueArgument("22: five digits for one", x, () -> x.runScript(1, 10000));
        CHECK.dueArgument("22: nine digits for two", x, () -> x.runScript(2, 100000000L));
        CHECK.dueArgument("22: thirteen digits for three", x, () -> x.runScript(3, 1000000000000L));
        CHECK.dueArgument("22: the greatest script", x, () -> x.runScript(3, Long.MAX_VALUE));
        due("four digits for one", FAILS, x, 1, 9999);
        due("eight digits for two", FAILS, x, 2, 99999999L);
        due("twelve digits for three", FAILS, x, 3, 999999999999L);
        due("zeros before it", FAILS, x, 2, 3000);
        due("no digits", FAILS, x, 1, 0);
    }

    private static void placeCommand() {
        SaltMarket x = Markets.begun(2, 0);
        due("pans", SUCCEEDS, x, 1, 1000);
        due("store", SUCCEEDS, x, 1, 1500);
        due("no such choice", FAILS, x, 1, 1001);
        due("no such choice", FAILS, x, 1, 1010);
        due("no such place", FAILS, x, 1, 1600);
        due("nothing to weave", FAILS, x, 1, 1201);
        due("nothing to sell", FAILS, x, 1, 1301);
        x.place(1, 0);
        x.place(0, 0);
        due("weaving", SUCCEEDS, x, 1, 1201);
        due("weaving too much", FAILS, x, 1, 1202);
        due("selling a fish", SUCCEEDS, x, 1, 1311);
        due("selling salt", FAILS, x, 1, 1301);
        due("no such good", FAILS, x, 1, 1331);
        x.set(0, 1);
        Markets.pass(x, 2);
        due("it is over", FAILS, x, 1, 1000);
    }

    private static void passAndPlayCommands() {
        SaltMarket x = Markets.begun(2, 0);
        due("passing", SUCCEEDS, x, 1, 2000);
        due("playing", SUCCEEDS, x, 1, 3000);
        for (int wrong : new int[] {1, 10, 100}) {
            due("passing with another digit", FAILS, x, 1, 2000 + wrong);
            due("playing with another digit", FAILS, x, 1, 3000 + wrong);
        }
        due("playing is placing at the pans", SUCCEEDS, x, 3, 300060109010L);
        x.set(0, 1);
        due("passing until it is over", 2, x, 3, 200020002000L);
        due("playing when it is over", 2, x, 3, 200020003000L);
    }

    private static void setCommand() {
        SaltMarket x = new SaltMarket();
        due("rounds", SUCCEEDS, x, 1, 4001);
        due("rounds", SUCCEEDS, x, 1, 4012);
        due("no rounds", FAILS, x, 1, 4000);
        due("too many rounds", FAILS, x, 1, 4013);
        due("bumping", SUCCEEDS, x, 1, 4100);
        due("bumping", SUCCEEDS, x, 1, 4105);
        due("bumping for too much", FAILS, x, 1, 4106);
        due("spots", SUCCEEDS, x, 1, 4201);
        due("spots", SUCCEEDS, x, 1, 4203);
        due("no spots", FAILS, x, 1, 4200);
        due("too many spots", FAILS, x, 1, 4204);
        due("no such setting", FAILS, x, 1, 4301);
        SaltMarket y = Markets.begun(2, 0);
        y.place(0, 0);
        y.place(1, 0);
        due("one's own only", 1, y, 2, 42011000L);
        y.set(0, 2);
        Markets.pass(y, 2);
        due("over by setting", 1, y, 2, 40011000L);
    }

    private static void totalCommand() {
        SaltMarket x = Markets.begun(3, 0);
        x.place(0, 0);
        due("a total of 20", SUCCEEDS, x, 1, 5020);
        due("a total of 21", FAILS, x, 1, 5021);
        due("a total of 14", SUCCEEDS, x, 1, 5214);
        due("a total of 15", FAILS, x, 1, 5215);
        due("any total", SUCCEEDS, x, 1, 5000);
        due("no such player", FAILS, x, 1, 5300);
        due("no such player", FAILS, x, 1, 5900);
    }

    private static void workersCommand() {
        SaltMarket x = Markets.begun(3, 0);
        x.place(5, 0);
        x.place(5, 0);
        due("two at the store", SUCCEEDS, x, 1, 6520);
        due("three at the store", FAILS, x, 1, 6530);
        due("none at the hall", SUCCEEDS, x, 1, 6400);
        due("one at the hall", FAILS, x, 1, 6410);
        due("another last digit", FAILS, x, 1, 6521);
        due("no such place", FAILS, x, 1, 6600);
    }

    private static void priceCommand() {
        SaltMarket x = Markets.begun(2, 0);
        due("salt for 3", SUCCEEDS, x, 1, 7030);
        due("salt for 4", FAILS, x, 1, 7040);
        due("fish for 3", SUCCEEDS, x, 1, 7130);
        due("cloth for 6", SUCCEEDS, x, 1, 7260);
        due("cloth for 7", FAILS, x, 1, 7270);
        due("no such good", FAILS, x, 1, 7300);
        due("another last digit", FAILS, x, 1, 7031);
        due("any price", SUCCEEDS, x, 1, 7000);
    }

    private static void turnCommand() {
        SaltMarket x = Markets.begun(3, 0);
        due("the turn of 0", SUCCEEDS, x, 1, 8000);
        due("the turn of 1", FAILS, x, 1, 8001);
        x.pass();
        due("the turn of 1", SUCCEEDS, x, 1, 8001);
        due("the turn of 0", FAILS, x, 1, 8000);
        due("no such player", FAILS, x, 1, 8003);
        due("another digit", FAILS, x, 1, 8011);
        due("another digit", FAILS, x, 1, 8101);
        x.set(0, 1);
        Markets.pass(x, 2);
        for (int p = 0; p < 4; p++) {
            due("no turns when it is over", FAILS, x, 1, 8000 + p);
        }
    }

    private static void goodsCommand() {
        SaltMarket x = Markets.begun(2, 0);
        x.place(0, 0);
        x.place(1, 0);
        due("six salt", SUCCEEDS, x, 1, 9006);
        due("seven salt", FAILS, x, 1, 9007);
        due("a fish", SUCCEEDS, x, 1, 9111);
        due("two fish", FAILS, x, 1, 9112);
        due("no cloth", SUCCEEDS, x, 1, 9120);
        due("a cloth", FAILS, x, 1, 9121);
        due("no such good", FAILS, x, 1, 9030);
        due("no such player", FAILS, x, 1, 9200);
    }

    private static void otherGroups() {
        SaltMarket x = Markets.begun(2, 0);
        for (int group = 0; group <= 999; group++) {
            due("a group with 0 first", FAILS, x, 1, group);
        }
    }

    private static void oneBehindTheOther() {
        SaltMarket x = Markets.begun(2, 0);
        due("all three succeed", SUCCEEDS, x, 3, 100011008000L);
        due("the first one fails", 0, x, 3, 131110001000L);
        due("the second one fails", 1, x, 3, 100013111000L);
        due("the third one fails", 2, x, 3, 100011001301L + 30);
        due("selling what was made", SUCCEEDS, x, 3, 100020001303L);
        due("the first group is the highest", 0, x, 2, 80011000L);
        due("and the last one the lowest", SUCCEEDS, x, 2, 10008001L);
        x.undo();
        CHECK.dueState("22: a script is no action", x, () -> x.undo());
    }

    private static void withoutGame() {
        SaltMarket x = new SaltMarket();
        due("placing", FAILS, x, 1, 1000);
        due("passing", FAILS, x, 1, 2000);
        due("playing", FAILS, x, 1, 3000);
        due("setting", SUCCEEDS, x, 1, 4007);
        due("total", FAILS, x, 1, 5000);
        due("no workers", SUCCEEDS, x, 1, 6000);
        due("a worker", FAILS, x, 1, 6010);
        due("no such place", FAILS, x, 1, 6600);
        due("price", FAILS, x, 1, 7000);
        due("turn", FAILS, x, 1, 8000);
        due("goods", FAILS, x, 1, 9000);
    }

    private static void simulateArguments() {
        SaltMarket x = Markets.begun(2, 0);
        CHECK.dueArgument("23: m is 0", x, () -> x.simulate(1, 0));
        CHECK.dueArgument("23: m is 81", x, () -> x.simulate(1, 81));
        CHECK.dueArgument("23: m is -1", x, () -> x.simulate(1, -1));
        SaltMarket none = new SaltMarket();
        CHECK.due("23: without a game", 0, () -> none.simulate(1, 80));
        CHECK.dueArgument("23: m is 0 without a game", none, () -> none.simulate(1, 0));
        x.place(0, 0);
        x.set(0, 1);
        Markets.pass(x, 2);
        CHECK.due("23: when it is over", 20 + 14, () -> x.simulate(1, 80));
    }

    /** Two turns whose numbers are found here, each by its own words. */
    private static void simulateByHand() {
        for (long seed = 0; seed < 400; seed++) {
            long y = seed * 6364136223846793005L + 1442695040888963407L;
            int r = (int) (y >>> 33);
            SaltMarket x = Markets.begun(2, 0);
            long from = seed;
            int place = r / 8 % 6;
            if (r % 8 == 7) {
                CHECK.due("23: passing", 28, () -> x.simulate(from, 1));
            } else if (place == 0 || place == 2 || place == 3) {
                // Nothing can be woven or sold, so that play() goes to the pans too.
                CHECK.due("23: six salt", 34, () -> x.simulate(from, 1));
            } else if (place == 1) {
                CHECK.due("23: a fish", 29, () -> x.simulate(from, 1));
            } else {
                CHECK.due("23: hall or store", 26, () -> x.simulate(from, 1));
            }
        }
    }

    private static void simulateLikeTurns() {
        for (int seed = 0; seed < 60; seed++) {
            SaltMarket x = Markets.begun(2 + seed % 3, seed);
            x.set(0, 1 + seed % 12);
            x.set(1, seed % 6);
            x.set(2, 1 + seed % 3);
            x.play();
            x.play();
            String before = View.of(x);
            long from = 1000003L * seed - 77;
            int m = 1 + 7 * seed % 80;
            int told = x.simulate(from, m);
            CHECK.same("23: nothing changes", before, View.of(x));
            int bumped = x.about(10);
            doTurns(x, from, m);
            int sum = 0;
            for (int p = 0; p < x.about(0); p++) {
                sum += x.player(p, 8);
            }
            CHECK.same("23: simulate(" + from + ", " + m + ")", "" + (1000 * (x.about(10) - bumped) + sum), "" + told);
        }
    }

    private static void doTurns(SaltMarket x, long seed, int m) {
        long y = seed;
        for (int i = 0; i < m && x.about(4) == 0; i++) {
            y = y * 6364136223846793005L + 1442695040888963407L;
            int r = (int) (y >>> 33);
            int q = r / 8 % 6;
            int choice = q == 2 ? 1 + r / 64 % 3 : q == 3 ? 10 * (r / 64 % 3) + 1 + r / 256 % 3 : 0;
            if (r % 8 == 7) {
                x.pass();
            } else if (x.brings(q, choice) >= 0) {
                x.place(q, choice);
            } else {
                x.play();
            }
        }
    }
}
