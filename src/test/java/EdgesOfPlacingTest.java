/** The boundary cases of "players", "weather, prices" and "placing", and of promises 10 and 11. */
public final class EdgesOfPlacingTest {
    private static final Check CHECK = new Check();
    private static final Twins TWINS = new Twins(CHECK);
    // Seeds whose first weather is 1 to 6.
    private static final int[] SEEDS = {107, 10, 4, 130, 2, 0};
    private static final int[] OUTSIDE = {-1, 6, 7, Integer.MIN_VALUE, Integer.MAX_VALUE};
    private static final Twins.Maker[] STATES = {Markets::rich, Markets::over, Markets::withoutGame};

    public static void main(String[] args) {
        playersOfBegin();
        playersAtFirst();
        beginAnew();
        anyLong();
        weathers();
        pricesAtFirst();
        places();
        choices();
        exceptionsInOrder();
        placingNotPossible();
        spots();
        firstOfAnother();
        onlyOwnOnes();
        away();
        toll();
        pansAndPier();
        fishOfLoom();
        coinsOfLoom();
        goodsOfStall();
        clothOfStall();
        pricesOfStall();
        coinsOfHall();
        workersOfHall();
        hiredOneAtHand();
        coinsOfStore();
        roomOfStore();
        hallBehindBumping();
        storeBehindBumping();
        loomBehindBumping();
        stallBehindBumping();
        CHECK.end("EdgesOfPlacingTest");
    }

    // There are 2 to 4 players, numbered from 0.
    private static void playersOfBegin() {
        for (int players = 2; players <= 4; players++) {
            SaltMarket x = Markets.begun(players, 0);
            int count = players;
            CHECK.due("10: players", count, () -> x.about(0));
            CHECK.due("7: the last player", 5, () -> x.player(count - 1, 0));
            TWINS.dueIndex("7: player " + players, () -> Markets.begun(count, 0), y -> y.player(count, 0));
            TWINS.dueIndex("7: player -1", () -> Markets.begun(count, 0), y -> y.player(-1, 0));
        }
        for (int players : new int[] {-1, 0, 1, 5, Integer.MIN_VALUE, Integer.MAX_VALUE}) {
            for (Twins.Maker maker : STATES) {
                TWINS.dueArgument("10: begin(" + players + ", 0)", maker, x -> x.begin(players, 0));
            }
        }
    }

    // A player has coins, at first 5; salt, fish and cloth, at first none; a room, at first 6; workers, at first 3.
    private static void playersAtFirst() {
        int[] wanted = {5, 0, 0, 0, 6, 3, 3, 0, 14};
        for (int players = 2; players <= 4; players++) {
            SaltMarket x = Markets.begun(players, 0);
            for (int p = 0; p < players; p++) {
                for (int what = 0; what <= 8; what++) {
                    int owner = p;
                    int k = what;
                    CHECK.due("10: player(" + p + ", " + what + ")", wanted[what], () -> x.player(owner, k));
                }
            }
        }
    }

    // Begins a new game, whatever there is; the settings stay.
    private static void beginAnew() {
        for (Twins.Maker maker : STATES) {
            SaltMarket x = maker.make();
            SaltMarket y = Markets.typed("S31");
            for (int what = 0; what <= 2; what++) {
                y.set(what, x.setting(what));
            }
            x.begin(4, 33);
            x.clearText();
            Markets.type(x, "S31");
            y.begin(4, 33);
            CHECK.same("10: a new game, whatever there is", View.of(y), View.of(x));
        }
    }

    // seed: any long.
    private static void anyLong() {
        long[] seeds = {Long.MIN_VALUE, Long.MIN_VALUE + 1, -2, -1, 0, 1, Integer.MAX_VALUE, 1L << 31, 1L << 32,
            1L << 33, 1L << 62, Long.MAX_VALUE - 1, Long.MAX_VALUE};
        for (long seed : seeds) {
            SaltMarket x = new SaltMarket();
            CHECK.due("10: begin(2, " + seed + ")", weatherOf(seed, 1), () -> x.begin(2, seed));
            CHECK.due("6: the weather", weatherOf(seed, 1), () -> x.about(2));
            for (int n = 1; n <= 12; n++) {
                int k = n;
                CHECK.due("21: weather(" + n + ") of " + seed, weatherOf(seed, n + 1), () -> x.weather(k));
            }
        }
    }

    /** The weather of the n-th throw, reckoned with numbers of any length. */
    private static int weatherOf(long seed, int n) {
        java.math.BigInteger x = java.math.BigInteger.valueOf(seed);
        for (int i = 0; i < n; i++) {
            x = x.multiply(new java.math.BigInteger("6364136223846793005"))
                .add(new java.math.BigInteger("1442695040888963407"))
                .mod(java.math.BigInteger.ONE.shiftLeft(64));
        }
        return 1 + x.shiftRight(33).mod(java.math.BigInteger.valueOf(6)).intValue();
    }

    // The weather is 1 + r % 6: 1 and 6 are the least and the greatest.
    private static void weathers() {
        for (int weather = 1; weather <= 6; weather++) {
            long seed = SEEDS[weather - 1];
            SaltMarket x = new SaltMarket();
            CHECK.due("10: begin(3, " + seed + ")", weather, () -> x.begin(3, seed));
        }
    }

    // The prices of the goods are at first 3, 3, 6: also in a game behind another one.
    private static void pricesAtFirst() {
        SaltMarket x = Markets.moved(2, 0, "pnm03m11-- --");
        x.begin(2, 0);
        CHECK.due("10: the price of salt", 3, () -> x.about(5));
        CHECK.due("10: the price of fish", 3, () -> x.about(6));
        CHECK.due("10: the price of cloth", 6, () -> x.about(7));
    }

    // One of 6 places, 0 to 5.
    private static void places() {
        for (Twins.Maker maker : STATES) {
            for (int place : OUTSIDE) {
                TWINS.dueIndex("11: place(" + place + ", 0)", maker, x -> x.place(place, 0));
                TWINS.dueIndex("16: brings(" + place + ", 0)", maker, x -> x.brings(place, 0));
                TWINS.dueIndex("17: bumps(" + place + ")", maker, x -> x.bumps(place));
                TWINS.dueIndex("8: worker(" + place + ", 0)", maker, x -> x.worker(place, 0));
            }
        }
        CHECK.due("11: place(0, 0)", -1, () -> Markets.begun(2, 0).place(0, 0));
        CHECK.due("11: place(5, 0)", -1, () -> Markets.begun(2, 0).place(5, 0));
    }

    // 0, where none is told; loom: 1 to 3; stall: 10 times a good, and 1 to 3.
    private static void choices() {
        int[][] wrong = {{-1, 1, 10}, {-1, 1, 3}, {-1, 0, 4, 11}, {-9, -1, 0, 4, 9, 10, 14, 20, 24, 30, 31, 33, 101},
            {-1, 1, 5}, {-1, 1, 2}};
        for (int place = 0; place <= 5; place++) {
            for (int choice : wrong[place]) {
                refuseChoice(place, choice);
            }
            refuseChoice(place, Integer.MIN_VALUE);
            refuseChoice(place, Integer.MAX_VALUE);
            refuseChoice(place, Integer.MIN_VALUE + 9);
        }
    }

    private static void refuseChoice(int place, int choice) {
        for (Twins.Maker maker : STATES) {
            TWINS.dueArgument("11: place(" + place + ", " + choice + ")", maker, x -> x.place(place, choice));
            TWINS.dueArgument("16: brings(" + place + ", " + choice + ")", maker, x -> x.brings(place, choice));
        }
    }

    // If several exceptions apply to a call, the one that its description names first is thrown.
    private static void exceptionsInOrder() {
        for (Twins.Maker maker : STATES) {
            TWINS.dueIndex("11: place(6, 1)", maker, x -> x.place(6, 1));
            TWINS.dueIndex("11: place(-1, -1)", maker, x -> x.place(-1, -1));
            TWINS.dueIndex("16: brings(6, 1)", maker, x -> x.brings(6, 1));
            TWINS.dueIndex("16: brings(-1, -1)", maker, x -> x.brings(-1, -1));
        }
    }

    // Throws IllegalStateException if there is no game, it is over, or the placing is not possible.
    private static void placingNotPossible() {
        int[] choices = {0, 0, 1, 21, 0, 0};
        for (int place = 0; place <= 5; place++) {
            int q = place;
            int choice = choices[place];
            TWINS.dueState("11: without a game", Markets::withoutGame, x -> x.place(q, choice));
            TWINS.dueState("11: when it is over", Markets::over, x -> x.place(q, choice));
        }
        TWINS.dueState("11: nothing to weave", () -> Markets.begun(2, 0), x -> x.place(2, 1));
        TWINS.dueState("11: nothing to sell", () -> Markets.begun(2, 0), x -> x.place(3, 1));
    }

    private static SaltMarket ruled(int players, long seed, int toll, int spots) {
        SaltMarket x = new SaltMarket();
        x.set(1, toll);
        x.set(2, spots);
        x.begin(players, seed);
        return x;
    }

    /** The game behind the moves, with another toll and other spots from then on. */
    private static Twins.Maker then(Twins.Maker maker, String moves, int toll, int spots) {
        return () -> {
            SaltMarket x = maker.make();
            Markets.move(x, moves);
            x.set(1, toll);
            x.set(2, spots);
            return x;
        };
    }

    private static Twins.Maker then(int players, long seed, String moves, int toll, int spots) {
        return then(() -> ruled(players, seed, 1, 2), moves, toll, spots);
    }

    // Each place has as many spots as setting 2 tells. If there are fewer workers, the worker is added, as the last one.
    private static void spots() {
        String[] ahead = {"", "", "nnnn", "nnnn", "", ""};
        int[] choices = {0, 0, 1, 11, 0, 0};
        for (int place = 0; place <= 5; place++) {
            for (int spots = 1; spots <= 3; spots++) {
                SaltMarket x = ruled(4, 0, 0, spots);
                Markets.move(x, ahead[place]);
                fill(x, place, choices[place], spots);
            }
        }
    }

    private static void fill(SaltMarket x, int place, int choice, int spots) {
        for (int p = 0; p < 4; p++) {
            int bumped = p < spots ? -1 : p - spots;
            String name = "player " + p + " at the place " + place + " with spots " + spots;
            CHECK.due("17: " + name, bumped, () -> x.bumps(place));
            CHECK.due("11: " + name, bumped, () -> x.place(place, choice));
            for (int k = 0; k <= 3; k++) {
                int spot = k;
                int owner = bumped + 1 + k <= p && k < spots ? bumped + 1 + k : -1;
                CHECK.due("8: " + name + ", spot " + k, owner, () -> x.worker(place, spot));
            }
        }
    }

    // Otherwise the first one there that belongs to another player is bumped; the worker is added as the last one.
    private static void firstOfAnother() {
        bumping("ppp", 1, 0, 2, 0);
        bumping("rppp", 2, 1, 0, 1);
        bumping("prrpp-", 1, 0, 0, 0);
        bumping("rpprrp", 1, 2, 2, 0);
        bumping("rppp-", 1, 2, 0, 2);
    }

    /** Who is bumped at the pans behind the moves, and who stands there then. */
    private static void bumping(String moves, int bumped, int first, int second, int third) {
        SaltMarket x = ruled(3, 0, 1, 3);
        Markets.move(x, moves);
        CHECK.due("11: behind " + moves, bumped, () -> x.place(0, 0));
        CHECK.due("8: behind " + moves + ", the first one", first, () -> x.worker(0, 0));
        CHECK.due("8: behind " + moves + ", the second one", second, () -> x.worker(0, 1));
        CHECK.due("8: behind " + moves + ", the third one", third, () -> x.worker(0, 2));
    }

    // This is not possible if there is none [that belongs to another player].
    private static void onlyOwnOnes() {
        TWINS.dueState("11: one of one", then(3, 0, "p--", 0, 1), x -> x.place(0, 0));
        TWINS.dueState("11: two of two", then(3, 0, "p--p", 0, 2), x -> x.place(0, 0));
        Twins.Maker hired = () -> Markets.moved(3, 0, "h---");
        Twins.Maker three = () -> then(then(hired, "--", 0, 3), "ppp", 0, 3).make();
        TWINS.dueState("11: three of three", three, x -> x.place(0, 0));
        TWINS.due("17: three of three", -1, three, x -> x.bumps(0));
        TWINS.due("16: three of three", -1, three, x -> x.brings(0, 0));
        TWINS.dueState("11: two, where one may be", then(3, 0, "p--p", 0, 1), x -> x.place(0, 0));
    }

    // It is away until the round ends.
    private static void away() {
        SaltMarket x = ruled(2, 0, 0, 1);
        Markets.move(x, "phnp");
        CHECK.due("11: one worker of three is at hand", 1, () -> x.player(0, 6));
        CHECK.due("11: there are three", 3, () -> x.player(0, 5));
        CHECK.due("11: three are at places", 3, () -> x.about(9));
        Markets.move(x, "rn");
        CHECK.due("11: the bumped ones do not come to hand", 0, () -> x.player(0, 6));
        CHECK.due("11: so it is the turn of the other one again", 1, () -> x.about(1));
        CHECK.due("11: in the same round", 0, () -> x.about(3));
        Markets.move(x, "-");
        CHECK.due("11: the round has ended", 1, () -> x.about(3));
        CHECK.due("11: they have come back", 3, () -> x.player(0, 6));
    }

    // Its owner gets setting 1 coins from the player who places. Not possible if the player has fewer coins.
    private static void toll() {
        tollOf("ph-", 0);
        tollOf("prnr-", 1);
        tollOf("pn-l3", 2);
        tollOf("pr-", 3);
        tollOf("pn-l1", 4);
        tollOf("p", 5);
        tollOf("pn-m11", 8);
    }

    /** The player 1 has so many coins behind the moves, and bumps the player 0 from the pans. */
    private static void tollOf(String moves, int coins) {
        for (int toll = 0; toll <= 5; toll++) {
            Twins.Maker maker = then(2, 10, moves, toll, 1);
            if (toll > coins) {
                TWINS.dueState("11: " + toll + " of " + coins, maker, x -> x.place(0, 0));
                TWINS.due("16: " + toll + " of " + coins, -1, maker, x -> x.brings(0, 0));
                TWINS.due("17: whether coins are enough, or not", 0, maker, x -> x.bumps(0));
                continue;
            }
            SaltMarket x = maker.make();
            int left = coins - toll;
            int got = x.player(0, 0) + toll;
            CHECK.due("11: " + toll + " of " + coins, 0, () -> x.place(0, 0));
            CHECK.due("11: what is left of " + coins, left, () -> x.player(1, 0));
            CHECK.due("11: what the owner has", got, () -> x.player(0, 0));
            CHECK.due("6: one is bumped", 1, () -> x.about(10));
        }
    }

    // 0, pans: the player gets as much salt as the weather. 1, pier: 7 less the weather in fish.
    private static void pansAndPier() {
        for (int weather = 1; weather <= 6; weather++) {
            SaltMarket x = Markets.moved(2, SEEDS[weather - 1], "pn");
            int salt = weather;
            CHECK.due("11: salt by the weather", salt, () -> x.player(0, 1));
            CHECK.due("11: no fish of the pans", 0, () -> x.player(0, 2));
            CHECK.due("11: fish by the weather", 7 - salt, () -> x.player(1, 2));
            CHECK.due("11: no salt of the pier", 0, () -> x.player(1, 1));
        }
    }

    // So many fish ..: with fish just enough it is possible, with one less not.
    private static void fishOfLoom() {
        TWINS.dueState("11: no fish", () -> Markets.begun(2, 0), x -> x.place(2, 1));
        for (int fish = 1; fish <= 3; fish++) {
            Twins.Maker maker = then(2, SEEDS[6 - fish], "n-", 1, 2);
            int most = fish;
            for (int more = fish + 1; more <= 3; more++) {
                int choice = more;
                TWINS.dueState("11: " + fish + " fish are not " + more, maker, x -> x.place(2, choice));
            }
            SaltMarket x = maker.make();
            CHECK.due("11: weaving all fish", -1, () -> x.place(2, most));
            CHECK.due("11: no fish is left", 0, () -> x.player(0, 2));
            CHECK.due("11: coins are paid", 5 - most, () -> x.player(0, 0));
            CHECK.due("11: twice as much cloth", 2 * most, () -> x.player(0, 3));
        }
    }

    // .. and as many coins. The second weather of seed 16 is 1, which brings six fish.
    private static void coinsOfLoom() {
        coinsOfLoom("h--", 0);
        coinsOfLoom("r-r-", 1);
        coinsOfLoom("n-l3-", 2);
        coinsOfLoom("r--", 3);
    }

    private static void coinsOfLoom(String moves, int coins) {
        Twins.Maker maker = then(2, 16, moves + "-n", 1, 2);
        CHECK.due("11: coins", coins, () -> maker.make().player(0, 0));
        CHECK.due("11: fish", 6, () -> maker.make().player(0, 2));
        for (int choice = 1; choice <= 3; choice++) {
            int k = choice;
            if (choice > coins) {
                TWINS.dueState("11: " + coins + " coins for " + choice, maker, x -> x.place(2, k));
            } else {
                SaltMarket x = maker.make();
                CHECK.due("11: " + coins + " coins for " + choice, -1, () -> x.place(2, k));
                CHECK.due("11: what is left", coins - k, () -> x.player(0, 0));
            }
        }
    }

    // So many of this good are sold: with goods just enough it is possible, with one less not.
    private static void goodsOfStall() {
        for (int choice : new int[] {1, 2, 3, 11, 12, 13, 21, 22, 23}) {
            TWINS.dueState("11: nothing to sell", () -> Markets.begun(2, 0), x -> x.place(3, choice));
        }
        for (int amount = 1; amount <= 3; amount++) {
            selling(then(2, SEEDS[amount - 1], "p-", 1, 2), 0, amount);
            selling(then(2, SEEDS[6 - amount], "n-", 1, 2), 1, amount);
        }
    }

    /** There are so many of the good: so many can be sold, more not, and of the others none. */
    private static void selling(Twins.Maker maker, int good, int amount) {
        CHECK.due("7: goods", amount, () -> maker.make().player(0, 1 + good));
        for (int choice : new int[] {1, 2, 3, 11, 12, 13, 21, 22, 23}) {
            String name = "11: selling " + choice + " with " + amount + " of the good " + good;
            if (choice / 10 == good && choice % 10 <= amount) {
                SaltMarket x = maker.make();
                CHECK.due(name, -1, () -> x.place(3, choice));
                CHECK.due(name + ", left", amount - choice % 10, () -> x.player(0, 1 + good));
            } else {
                TWINS.dueState(name, maker, x -> x.place(3, choice));
            }
        }
    }

    // The same with cloth, of which one, two or three are there in the second round of seed 28 (weather 2, then 3).
    private static void clothOfStall() {
        Twins.Maker one = then(2, 28, "n-l1m21-", 1, 2);
        Twins.Maker two = then(2, 28, "n-l1--", 1, 2);
        Twins.Maker three = then(2, 28, "n-l2m21-", 1, 2);
        onlyCloth(one, 1);
        onlyCloth(two, 2);
        onlyCloth(three, 3);
    }

    private static void onlyCloth(Twins.Maker maker, int cloth) {
        CHECK.due("7: cloth", cloth, () -> maker.make().player(0, 3));
        for (int amount = 1; amount <= 3; amount++) {
            int k = amount;
            if (amount > cloth) {
                TWINS.dueState("11: " + cloth + " cloth are not " + amount, maker, x -> x.place(3, 20 + k));
            } else {
                SaltMarket x = maker.make();
                CHECK.due("11: " + amount + " of " + cloth + " cloth", -1, () -> x.place(3, 20 + k));
                CHECK.due("11: cloth left", cloth - k, () -> x.player(0, 3));
            }
        }
    }

    // Each for its price, which becomes 1 less by each, but not less than 1.
    private static void pricesOfStall() {
        Twins.Maker salt = then(2, 0, "pp", 1, 2);
        sale(salt, 1, 3, 2);
        sale(salt, 2, 3 + 2, 1);
        sale(salt, 3, 3 + 2 + 1, 1);
        sale(then(salt, "m01", 1, 2), 1, 2, 1);
        sale(then(salt, "m01", 1, 2), 2, 2 + 1, 1);
        sale(then(salt, "m01", 1, 2), 3, 2 + 1 + 1, 1);
        sale(then(salt, "m02", 1, 2), 1, 1, 1);
        sale(then(salt, "m02", 1, 2), 3, 1 + 1 + 1, 1);
        sale(then(salt, "m03", 1, 2), 1, 1, 1);
        sale(then(salt, "m03", 1, 2), 2, 1 + 1, 1);
        Twins.Maker fish = then(2, 10, "nn", 1, 2);
        sale(fish, 11, 3, 2);
        sale(fish, 12, 3 + 2, 1);
        sale(fish, 13, 3 + 2 + 1, 1);
        Twins.Maker cloth = then(2, 10, "npl3p", 1, 2);
        sale(cloth, 21, 6, 5);
        sale(cloth, 22, 6 + 5, 4);
        sale(cloth, 23, 6 + 5 + 4, 3);
    }

    private static void sale(Twins.Maker maker, int choice, int coins, int behind) {
        SaltMarket x = maker.make();
        int seller = x.about(1);
        int before = x.player(seller, 0);
        int[] prices = {x.about(5), x.about(6), x.about(7)};
        String name = choice + " for " + prices[choice / 10];
        prices[choice / 10] = behind;
        CHECK.due("16: what it brings, " + name, 100 + coins - choice % 10 * (choice > 20 ? 2 : 1),
            () -> x.brings(3, choice));
        CHECK.due("11: " + name, -1, () -> x.place(3, choice));
        CHECK.due("11: coins, " + name, before + coins, () -> x.player(seller, 0));
        for (int good = 0; good <= 2; good++) {
            int g = good;
            CHECK.due("6: the price of the good " + g + ", " + name, prices[g], () -> x.about(5 + g));
        }
    }

    // 4, hall: 5 coins are paid for one more worker.
    private static void coinsOfHall() {
        SaltMarket x = Markets.begun(2, 10);
        CHECK.due("11: five coins for the hall", -1, () -> x.place(4, 0));
        CHECK.due("11: all are paid", 0, () -> x.player(0, 0));
        CHECK.due("11: one more worker", 4, () -> x.player(0, 5));
        TWINS.dueState("11: four coins for the hall", then(2, 10, "n-l1", 1, 2), y -> y.place(4, 0));
        TWINS.dueState("11: no coins for the hall", then(2, 10, "h-", 1, 2), y -> y.place(4, 0));
        SaltMarket more = Markets.moved(2, 10, "n-m11h");
        CHECK.due("11: eight coins for the hall", 3, () -> more.player(0, 0));
    }

    // There can be 5.
    private static void workersOfHall() {
        SaltMarket x = Markets.moved(2, 0, "p-m03h");
        CHECK.due("11: four workers", 4, () -> x.player(0, 5));
        CHECK.due("11: the fifth one", -1, () -> x.place(4, 0));
        CHECK.due("11: five workers", 5, () -> x.player(0, 5));
        Twins.Maker rich = then(2, 0, "p-m03hh- -nm13", 1, 2);
        CHECK.due("11: coins enough", 10, () -> rich.make().player(0, 0));
        CHECK.due("11: five at the most", 5, () -> rich.make().player(0, 5));
        TWINS.dueState("11: no sixth one", rich, y -> y.place(4, 0));
        TWINS.due("16: no sixth one", -1, rich, y -> y.brings(4, 0));
    }

    // One more worker, who is at hand.
    private static void hiredOneAtHand() {
        SaltMarket x = Markets.moved(2, 0, "p-p");
        CHECK.due("11: the last one at hand goes to the hall", -1, () -> x.place(4, 0));
        CHECK.due("11: the hired one is at hand", 1, () -> x.player(0, 6));
        CHECK.due("11: so the round goes on", 0, () -> x.about(3));
        CHECK.due("11: with the same player", 0, () -> x.about(1));
        CHECK.due("11: who can place it", -1, () -> x.place(1, 0));
        CHECK.due("11: and then it ends", 1, () -> x.about(3));
    }

    // 5, store: 2 coins are paid for a room that is 3 more.
    private static void coinsOfStore() {
        SaltMarket x = Markets.moved(2, 10, "n-l3");
        CHECK.due("11: two coins", 2, () -> x.player(0, 0));
        CHECK.due("11: two coins for the store", -1, () -> x.place(5, 0));
        CHECK.due("11: all are paid", 0, () -> x.player(0, 0));
        CHECK.due("11: a room that is 3 more", 9, () -> x.player(0, 4));
        TWINS.dueState("11: one coin for the store", then(2, 10, "r-r", 1, 3), y -> y.place(5, 0));
        TWINS.dueState("11: no coin for the store", then(2, 10, "h-", 1, 3), y -> y.place(5, 0));
    }

    // It can be 30.
    private static void roomOfStore() {
        SaltMarket x = inStore(27);
        CHECK.due("11: room", 27, () -> x.player(0, 4));
        CHECK.due("11: from 27 to 30", -1, () -> x.place(5, 0));
        CHECK.due("11: the greatest room", 30, () -> x.player(0, 4));
        CHECK.same("11: coins enough", "true", "" + (inStore(30).player(0, 0) >= 2));
        TWINS.dueState("11: not from 30 to 33", () -> inStore(30), y -> y.place(5, 0));
        TWINS.due("16: not from 30 to 33", -1, () -> inStore(30), y -> y.brings(5, 0));
    }

    /** A game in which the player 0 has such a room, it is the turn of this player, and the store has a free spot. */
    private static SaltMarket inStore(int room) {
        SaltMarket x = Markets.begun(2, 5);
        x.set(0, 12);
        for (int round = 0; round < 12; round++) {
            if (x.about(1) == 1) {
                x.pass();
            }
            if (x.player(0, 4) == room && x.player(0, 0) >= 2) {
                return x;
            }
            boolean salt = x.about(2) >= 4;
            x.place(salt ? 0 : 1, 0);
            if (x.about(1) == 1) {
                x.pass();
            }
            x.place(3, salt ? 3 : 13);
            if (x.player(0, 4) < room) {
                x.place(5, 0);
            } else {
                x.pass();
            }
        }
        return x;
    }

    private static void behindBumping(String name, Twins.Maker maker, int place, int choice, int left) {
        SaltMarket x = maker.make();
        int p = x.about(1);
        CHECK.due("11: " + name, 0, () -> x.place(place, choice));
        CHECK.due("11: " + name + ", coins left", left, () -> x.player(p, 0));
    }

    // What is to be paid or given for that must be there behind the bumping; otherwise the placing is not possible.
    private static void hallBehindBumping() {
        behindBumping("5 coins, 0 for bumping", then(2, 0, "h", 0, 1), 4, 0, 0);
        TWINS.dueState("11: 5 coins, 1 for bumping", then(2, 0, "h", 1, 1), x -> x.place(4, 0));
        behindBumping("8 coins, 3 for bumping", then(2, 0, "hp-m01", 3, 1), 4, 0, 0);
        TWINS.dueState("11: 8 coins, 4 for bumping", then(2, 0, "hp-m01", 4, 1), x -> x.place(4, 0));
    }

    private static void storeBehindBumping() {
        behindBumping("5 coins, 3 for bumping", then(2, 0, "r", 3, 1), 5, 0, 0);
        TWINS.dueState("11: 5 coins, 4 for bumping", then(2, 0, "r", 4, 1), x -> x.place(5, 0));
        TWINS.dueState("11: 5 coins, 5 for bumping", then(2, 0, "r", 5, 1), x -> x.place(5, 0));
    }

    private static void loomBehindBumping() {
        for (int choice = 1; choice <= 3; choice++) {
            int k = choice;
            int most = 5 - choice;
            behindBumping("just enough", then(2, 10, "nnl1", most, 1), 2, k, 0);
            TWINS.dueState("11: one less than enough", then(2, 10, "nnl1", most + 1, 1), x -> x.place(2, k));
        }
        TWINS.dueState("11: no fish, though one can be bumped", then(2, 10, "npl1", 0, 1), x -> x.place(2, 1));
    }

    // What is sold does not pay for the bumping.
    private static void stallBehindBumping() {
        TWINS.dueState("11: no coin for bumping", then(2, 0, "ppm01h-", 1, 1), x -> x.place(3, 3));
        TWINS.dueState("11: no coins for bumping", then(2, 0, "ppm01h-", 2, 1), x -> x.place(3, 2));
        behindBumping("no coin is needed", then(2, 0, "ppm01h-", 0, 1), 3, 3, 4);
        behindBumping("all coins for bumping", then(2, 0, "ppm01", 5, 1), 3, 1, 2);
    }
}
