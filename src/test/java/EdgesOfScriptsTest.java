/** The boundary cases of "scripts, simulations": promises 22 and 23. */
public final class EdgesOfScriptsTest {
    private static final Check CHECK = new Check();
    private static final Twins TWINS = new Twins(CHECK);
    private static final long FACTOR = 6364136223846793005L;
    private static final long ADDED = 1442695040888963407L;
    private static final int FAILS = 0;
    private static final int SUCCEEDS = -1;
    private static final Twins.Maker[] STATES = {Markets::rich, Markets::over, Markets::withoutGame};

    public static void main(String[] args) {
        commandsOutside();
        tooManyDigits();
        mostDigits();
        zerosBeforeIt();
        everyGroup();
        placeGroups();
        digitsWhereZeroIsWritten();
        setGroups();
        totalAtLeast();
        workersAtLeast();
        priceAtLeast();
        turnOfPlayer();
        goodsAtLeast();
        withoutGame();
        whenOver();
        firstThatFails();
        onACopy();
        turnsOutside();
        nothingWithoutGame();
        nothingWhenOver();
        overOnTheWay();
        onlyThisOnesBumping();
        anySeed();
        eachTurn();
        CHECK.end("EdgesOfScriptsTest");
    }

    private static void due(String what, int want, int got) {
        CHECK.same(what, "" + want, "" + got);
    }

    private static void script(String name, int want, Twins.Maker maker, int n, long script) {
        TWINS.due("22: " + name + ": " + script, want, maker, x -> x.runScript(n, script));
    }

    private static Twins.Maker moved(int players, long seed, String moves) {
        return () -> Markets.moved(players, seed, moves);
    }

    // Throws IllegalArgumentException if n is out of range (1 to 3), ..
    private static void commandsOutside() {
        for (Twins.Maker maker : STATES) {
            for (int n : new int[] {-1, 0, 4, Integer.MIN_VALUE, Integer.MAX_VALUE}) {
                TWINS.dueArgument("22: n is " + n, maker, x -> x.runScript(n, 0));
                TWINS.dueArgument("22: n is " + n, maker, x -> x.runScript(n, 4006));
            }
        }
    }

    // .. or if script is negative or has more than 4 * n digits.
    private static void tooManyDigits() {
        long[] least = {10000L, 100000000L, 1000000000000L};
        for (Twins.Maker maker : STATES) {
            for (int n = 1; n <= 3; n++) {
                int k = n;
                long[] wrong = {-1, -4006, Long.MIN_VALUE, Long.MAX_VALUE, least[n - 1], least[n - 1] + 4006,
                    1000000000000L, 1L << 32, 1L << 62};
                for (long script : wrong) {
                    if (script < 0 || script >= least[n - 1]) {
                        TWINS.dueArgument("22: " + script + " for " + n, maker, x -> x.runScript(k, script));
                    }
                }
            }
        }
    }

    private static void mostDigits() {
        script("four digits for one", FAILS, Markets::rich, 1, 9999);
        script("eight digits for two", FAILS, Markets::rich, 2, 99999999L);
        script("twelve digits for three", FAILS, Markets::rich, 3, 999999999999L);
        script("eight digits for three", FAILS, Markets::rich, 3, 99999999L);
        script("twelve digits that succeed", SUCCEEDS, Markets::rich, 3, 401241054203L);
    }

    // The first command is the highest group of the number (with zeros before it, if it has fewer digits).
    private static void zerosBeforeIt() {
        script("zero for one", FAILS, Markets::rich, 1, 0);
        script("zero for three", FAILS, Markets::rich, 3, 0);
        script("the first of two is 0000", FAILS, Markets::rich, 2, 4006);
        script("the first of three is 0000", FAILS, Markets::rich, 3, 40064006L);
        script("the second of two is 0000", 1, Markets::rich, 2, 40060000L);
        script("the third of three is 0000", 2, Markets::rich, 3, 400640060000L);
    }

    /** In one state every group that there is, beside a table of those that succeed. */
    private static void everyGroup() {
        // Weather 2: the player 0 has two fish, six cloth and two coins; it is the turn of the player 0.
        Twins.Maker maker = moved(2, 10, "np l3-");
        SaltMarket x = Markets.moved(2, 10, "npl3-");
        due("7: coins", 2, x.player(0, 0));
        due("7: fish", 2, x.player(0, 2));
        due("7: salt of the other one", 2, x.player(1, 1));
        for (int group = 0; group <= 9999; group++) {
            due("22: the group " + group, succeeds(group) ? SUCCEEDS : FAILS, x.runScript(1, group));
        }
        CHECK.same("22: nothing has changed", View.of(maker.make()), View.of(x));
    }

    /** Whether the group succeeds in the state of everyGroup, read off lists. */
    private static boolean succeeds(int group) {
        String d = String.format("%04d", group);
        String rest = d.substring(1);
        int value = group % 100;
        switch (d.charAt(0)) {
            case '1':
                return "000 100 201 202 311 312 321 322 323 500 ".contains(rest + " ");
            case '2':
            case '3':
                return rest.equals("000");
            case '4':
                return rest.charAt(0) == '0' && value >= 1 && value <= 12 || rest.charAt(0) == '1' && value <= 5
                    || rest.charAt(0) == '2' && value >= 1 && value <= 3;
            case '5':
                return rest.charAt(0) == '0' && value <= 2 + 2 + 12 + 9 || rest.charAt(0) == '1' && value <= 5 + 2 + 9;
            case '6':
                return "000 010 100 110 200 210 300 400 500 ".contains(rest + " ");
            case '7':
                return "000 010 020 030 100 110 120 130 200 210 220 230 240 250 260 ".contains(rest + " ");
            case '8':
                return rest.equals("000");
            case '9':
                return "000 010 011 012 020 021 022 023 024 025 026 100 101 102 110 120 ".contains(rest + " ");
            default:
                return false;
        }
    }

    // 1 q c c: place(q, cc): it fails if the method would throw an exception.
    private static void placeGroups() {
        Twins.Maker maker = moved(2, 10, "np");
        script("the place 5", SUCCEEDS, maker, 1, 1500);
        script("the place 6", FAILS, maker, 1, 1600);
        script("the place 9", FAILS, maker, 1, 1900);
        script("no such choice", FAILS, maker, 1, 1001);
        script("the choice 0 of the loom", FAILS, maker, 1, 1200);
        script("the choice 3 of the loom", SUCCEEDS, maker, 1, 1203);
        script("the choice 4 of the loom", FAILS, maker, 1, 1204);
        script("the choice 13 of the loom", FAILS, maker, 1, 1213);
        script("the choice 13 of the stall", SUCCEEDS, maker, 1, 1313);
        script("the choice 14 of the stall", FAILS, maker, 1, 1314);
        script("the choice 31 of the stall", FAILS, maker, 1, 1331);
        script("the choice 91 of the stall", FAILS, maker, 1, 1391);
        script("no salt", FAILS, maker, 1, 1301);
        script("one's own only", 2, moved(2, 10, "p-"), 3, 420141001000L);
    }

    // Any other group fails, also one with another digit where a 0 is written.
    private static void digitsWhereZeroIsWritten() {
        for (int wrong : new int[] {1, 9, 10, 90, 100, 900, 111}) {
            script("pass", FAILS, Markets::rich, 1, 2000 + wrong);
            script("play", FAILS, Markets::rich, 1, 3000 + wrong);
        }
        for (int last = 1; last <= 9; last++) {
            script("workers", FAILS, Markets::rich, 1, 6000 + last);
            script("price", FAILS, Markets::rich, 1, 7000 + last);
        }
        for (int wrong : new int[] {10, 90, 100, 900}) {
            script("turn", FAILS, Markets::rich, 1, 8000 + wrong);
        }
        script("workers", SUCCEEDS, Markets::rich, 1, 6000);
        script("price", SUCCEEDS, Markets::rich, 1, 7000);
        script("turn", SUCCEEDS, Markets::rich, 1, 8000);
        for (int group = 0; group <= 999; group += 37) {
            script("0 first", FAILS, Markets::rich, 1, group);
        }
    }

    // 4 w v v: set(w, vv).
    private static void setGroups() {
        for (Twins.Maker maker : STATES) {
            script("no rounds", FAILS, maker, 1, 4000);
            script("a round", SUCCEEDS, maker, 1, 4001);
            script("12 rounds", SUCCEEDS, maker, 1, 4012);
            script("13 rounds", FAILS, maker, 1, 4013);
            script("for nothing", SUCCEEDS, maker, 1, 4100);
            script("for five", SUCCEEDS, maker, 1, 4105);
            script("for six", FAILS, maker, 1, 4106);
            script("no spot", FAILS, maker, 1, 4200);
            script("a spot", SUCCEEDS, maker, 1, 4201);
            script("three spots", SUCCEEDS, maker, 1, 4203);
            script("four spots", FAILS, maker, 1, 4204);
            script("the setting 3", FAILS, maker, 1, 4301);
            script("the setting 9", FAILS, maker, 1, 4901);
        }
    }

    // 5 p t t: succeeds if the total of the player p is at least tt.
    private static void totalAtLeast() {
        Twins.Maker maker = moved(3, 0, "pn");
        script("just the total", SUCCEEDS, maker, 1, 5020);
        script("one more than the total", FAILS, maker, 1, 5021);
        script("at least nothing", SUCCEEDS, maker, 1, 5200);
        script("99", FAILS, maker, 1, 5099);
        script("no fourth player", FAILS, maker, 1, 5300);
        script("no tenth player", FAILS, maker, 1, 5900);
    }

    // 6 q n 0: succeeds if there are at least n workers at the place q.
    private static void workersAtLeast() {
        Twins.Maker maker = moved(3, 0, "rr");
        script("at least none", SUCCEEDS, maker, 1, 6500);
        script("at least two of two", SUCCEEDS, maker, 1, 6520);
        script("at least three of two", FAILS, maker, 1, 6530);
        script("at least one of none", FAILS, maker, 1, 6010);
        script("no place 6", FAILS, maker, 1, 6600);
        script("no place 9", FAILS, maker, 1, 6900);
    }

    // 7 g n 0: succeeds if the price of the good g is at least n.
    private static void priceAtLeast() {
        Twins.Maker maker = moved(2, 0, "ppm03");
        script("1 is at least 1", SUCCEEDS, maker, 1, 7010);
        script("1 is not at least 2", FAILS, maker, 1, 7020);
        script("3 is at least 3", SUCCEEDS, maker, 1, 7130);
        script("3 is not at least 4", FAILS, maker, 1, 7140);
        script("6 is at least 6", SUCCEEDS, maker, 1, 7260);
        script("6 is not at least 7", FAILS, maker, 1, 7270);
        script("at least 0", SUCCEEDS, maker, 1, 7200);
        script("no good 3", FAILS, maker, 1, 7300);
        script("no good 9", FAILS, maker, 1, 7900);
        script("9 is at least 9", SUCCEEDS, moved(2, 0, "-- -- --"), 1, 7290);
    }

    // 8 0 0 p: succeeds if it is the turn of the player p.
    private static void turnOfPlayer() {
        for (int turn = 0; turn <= 3; turn++) {
            Twins.Maker maker = moved(4, 0, "-".repeat(turn));
            for (int p = 0; p <= 9; p++) {
                script("the turn of " + turn, p == turn ? SUCCEEDS : FAILS, maker, 1, 8000 + p);
            }
        }
    }

    // 9 p g n: succeeds if the player p has at least n of the good g.
    private static void goodsAtLeast() {
        Twins.Maker maker = moved(2, 10, "npl1");
        script("four fish of four", SUCCEEDS, maker, 1, 9014);
        script("five fish of four", FAILS, maker, 1, 9015);
        script("two cloth of two", SUCCEEDS, maker, 1, 9022);
        script("three cloth of two", FAILS, maker, 1, 9023);
        script("two salt of two", SUCCEEDS, maker, 1, 9102);
        script("three salt of two", FAILS, maker, 1, 9103);
        script("no salt", SUCCEEDS, maker, 1, 9000);
        script("no good 3", FAILS, maker, 1, 9030);
        script("no good 9", FAILS, maker, 1, 9090);
        script("no third player", FAILS, maker, 1, 9200);
        script("no tenth player", FAILS, maker, 1, 9900);
    }

    // .. and 7 without a game (6 is asked of empty places then).
    private static void withoutGame() {
        for (int first : new int[] {1, 2, 3, 5, 7, 8, 9}) {
            script("without a game", FAILS, Markets::withoutGame, 1, first * 1000);
            script("in a new object", FAILS, SaltMarket::new, 1, first * 1000);
        }
        Twins.Maker back = () -> {
            SaltMarket x = Markets.moved(2, 0, "ppr");
            Markets.countRemembered(x);
            return x;
        };
        for (Twins.Maker maker : new Twins.Maker[] {Markets::withoutGame, SaltMarket::new, back}) {
            for (int place = 0; place <= 5; place++) {
                script("none at an empty place", SUCCEEDS, maker, 1, 6000 + 100 * place);
                script("one at an empty place", FAILS, maker, 1, 6010 + 100 * place);
            }
            script("no such place", FAILS, maker, 1, 6600);
            script("the price of a good", FAILS, maker, 1, 7110);
            script("no price", FAILS, maker, 1, 7100);
            script("setting", SUCCEEDS, maker, 1, 4006);
        }
    }

    // The commands 1 to 4 fail if the method would throw an exception: 1 to 3 when it is over.
    private static void whenOver() {
        script("placing", FAILS, Markets::over, 1, 1000);
        script("passing", FAILS, Markets::over, 1, 2000);
        script("playing", FAILS, Markets::over, 1, 3000);
        for (int p = 0; p <= 3; p++) {
            script("nobody's turn", FAILS, Markets::over, 1, 8000 + p);
        }
        script("a total", SUCCEEDS, Markets::over, 1, 5001);
        script("workers", SUCCEEDS, Markets::over, 1, 6000);
        script("a price", SUCCEEDS, Markets::over, 1, 7010);
        script("goods", SUCCEEDS, Markets::over, 1, 9000);
        script("it goes on with more rounds", SUCCEEDS, Markets::over, 3, 401210002000L);
        script("it is over with fewer rounds", 1, moved(2, 0, "-- p"), 2, 40013000L);
    }

    // Returns the index, from 0, of the first command that fails; NONE if all succeed.
    private static void firstThatFails() {
        Twins.Maker maker = moved(2, 0, "");
        script("one fails", 0, maker, 1, 9001);
        script("the first of two", 0, maker, 2, 90018000L);
        script("the second of two", 1, maker, 2, 80009001L);
        script("both of two", 0, maker, 2, 90019001L);
        script("none of two", SUCCEEDS, maker, 2, 80009000L);
        script("the third of three", 2, maker, 3, 800090009001L);
        script("the second and the third of three", 1, maker, 3, 800090019001L);
        script("all three", 0, maker, 3, 900190019001L);
        script("none of three", SUCCEEDS, maker, 3, 800090006000L);
    }

    // Runs a script on a copy of the state: a command finds what those ahead of it have done.
    private static void onACopy() {
        Twins.Maker maker = moved(2, 0, "");
        script("placing, then the turn", SUCCEEDS, maker, 2, 10008001L);
        script("placing, then the salt", SUCCEEDS, maker, 2, 10009006L);
        script("placing, then a worker", SUCCEEDS, maker, 2, 10006010L);
        script("placing, passing, then selling", SUCCEEDS, maker, 3, 100020001303L);
        script("selling three, then the price", 2, moved(2, 0, "pp"), 3, 130370107020L);
        script("playing, then the total", SUCCEEDS, maker, 2, 30005020L);
        script("playing, then a greater total", 1, maker, 2, 30005021L);
        script("passing, then the turn", SUCCEEDS, maker, 2, 20008001L);
        script("setting, then bumping", SUCCEEDS, moved(2, 0, "p"), 3, 420110006010L);
        script("setting, then no third one", 2, moved(2, 0, "p"), 3, 420110006020L);
        script("two passings end the round", SUCCEEDS, maker, 3, 200020007040L);
        script("and no price is greater", 2, maker, 3, 200020007050L);
    }

    // Throws IllegalArgumentException if m is out of range (1 to 80).
    private static void turnsOutside() {
        for (Twins.Maker maker : STATES) {
            for (int m : new int[] {-1, 0, 81, 82, Integer.MIN_VALUE, Integer.MAX_VALUE}) {
                TWINS.dueArgument("23: m is " + m, maker, x -> x.simulate(1, m));
            }
        }
        for (int m : new int[] {1, 80}) {
            int wanted = (int) simulated(Markets.rich(), 5, m);
            TWINS.due("23: m is " + m, wanted, Markets::rich, x -> x.simulate(5, m));
        }
    }

    // Nothing is done without a game: 0 without a game.
    private static void nothingWithoutGame() {
        for (int m : new int[] {1, 2, 79, 80}) {
            TWINS.due("23: without a game", 0, Markets::withoutGame, x -> x.simulate(Long.MIN_VALUE, m));
            TWINS.due("23: in a new object", 0, SaltMarket::new, x -> x.simulate(0, m));
        }
    }

    // .. or when it is over: the sum of the totals is that of now.
    private static void nothingWhenOver() {
        SaltMarket x = Markets.over();
        int sum = x.player(0, 8) + x.player(1, 8) + x.player(2, 8);
        CHECK.same("6: some were bumped", "true", "" + (x.about(10) > 0));
        for (int m : new int[] {1, 80}) {
            TWINS.due("23: when it is over", sum, Markets::over, y -> y.simulate(7, m));
        }
    }

    // When the game is over on the way, the rest of the m turns is left.
    private static void overOnTheWay() {
        for (int seed = 0; seed < 60; seed++) {
            SaltMarket x = Markets.begun(2 + seed % 3, seed);
            x.set(0, 1);
            long from = seed * 7919L;
            int most = x.simulate(from, 80);
            due("23: the round is over before 40 turns", most, x.simulate(from, 40));
            due("23: 80 turns of a short game", (int) simulated(x, from, 80), most);
        }
    }

    // How often a worker is bumped in them: not ahead of them.
    private static void onlyThisOnesBumping() {
        Twins.Maker maker = () -> {
            SaltMarket x = new SaltMarket();
            x.set(1, 0);
            x.set(2, 1);
            x.begin(3, 0);
            Markets.move(x, "pppp");
            return x;
        };
        due("6: three were bumped ahead", 3, maker.make().about(10));
        boolean none = false;
        boolean some = false;
        for (long seed = 0; seed < 60; seed++) {
            long from = seed;
            long wanted = simulated(maker.make(), from, 1);
            none |= wanted < 1000;
            some |= wanted >= 1000 && wanted < 2000;
            TWINS.due("23: one turn from " + seed, wanted, maker, x -> x.simulate(from, 1));
        }
        CHECK.same("23: some turns bump one, others none", "true true", some + " " + none);
    }

    // seed: any long. y * .. + .. (with long overflow), and r = (int) (y >>> 33).
    private static void anySeed() {
        long[] seeds = {Long.MIN_VALUE, Long.MIN_VALUE + 1, -1, 0, 1, 1L << 33, 1L << 62, Long.MAX_VALUE - 1,
            Long.MAX_VALUE};
        for (long seed : seeds) {
            for (int m : new int[] {1, 2, 3, 40, 80}) {
                long wanted = simulated(Markets.begun(4, 8), seed, m);
                SaltMarket x = Markets.begun(4, 8);
                due("23: simulate(" + seed + ", " + m + ")", (int) wanted, x.simulate(seed, m));
            }
        }
    }

    // Each turn first replaces y; q is r / 8 % 6; if r % 8 is 7, pass(); otherwise place(), and if not, play().
    private static void eachTurn() {
        int passed = 0;
        int placed = 0;
        int played = 0;
        for (long seed = 0; seed < 700; seed++) {
            Twins.Maker maker = seed % 2 == 0 ? moved(3, 10, "npn") : moved(2, 10, "nnl1l1");
            SaltMarket x = maker.make();
            int total = 0;
            for (int p = 0; p < x.about(0); p++) {
                total += x.player(p, 8);
            }
            int r = (int) (seed * FACTOR + ADDED >>> 33);
            int q = r / 8 % 6;
            boolean passes = r % 8 == 7;
            int brings = passes ? 100 : x.brings(q, choiceOf(q, r));
            passed += passes ? 1 : 0;
            placed += !passes && brings >= 0 ? 1 : 0;
            played += brings < 0 ? 1 : 0;
            if (brings < 0) {
                brings = Math.max(100, x.best(0));
                q = x.best(1);
            }
            // The coin for a bumped one stays in the sum, though it is not the player's.
            int gain = brings - 100 + (!passes && x.bumps(q) >= 0 ? 1001 : 0);
            due("23: one turn from " + seed, total + gain, x.simulate(seed, 1));
        }
        CHECK.same("23: each kind of turn is there", "true", "" + (passed > 40 && placed > 40 && played > 40));
    }

    private static int choiceOf(int q, int r) {
        return q == 2 ? 1 + r / 64 % 3 : q == 3 ? 10 * (r / 64 % 3) + 1 + r / 256 % 3 : 0;
    }

    /** What simulate() should answer, by doing the turns; the market is changed and brought back. */
    private static long simulated(SaltMarket x, long seed, int m) {
        x.save(0);
        int before = x.about(10);
        long y = seed;
        for (int turn = 0; turn < m && x.about(0) > 0 && x.about(4) == 0; turn++) {
            y = y * FACTOR + ADDED;
            int r = (int) (y >>> 33);
            int q = r / 8 % 6;
            int choice = choiceOf(q, r);
            if (r % 8 == 7) {
                x.pass();
            } else if (Check.answerOf(() -> x.place(q, choice)).startsWith("throws.")) {
                x.play();
            }
        }
        long sum = 1000L * (x.about(10) - before);
        for (int p = 0; p < x.about(0); p++) {
            sum += x.player(p, 8);
        }
        x.restore(0);
        return sum;
    }
}
