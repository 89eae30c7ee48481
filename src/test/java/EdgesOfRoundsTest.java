/** The boundary cases of "rounds" and "settings", and of promises 12 to 14. */
public final class EdgesOfRoundsTest {
    private static final Check CHECK = new Check();
    private static final Twins TWINS = new Twins(CHECK);
    // Seeds whose first weather is 1 to 6.
    private static final int[] SEEDS = {107, 10, 4, 130, 2, 0};
    private static final int[] LEAST = {1, 0, 1};
    private static final int[] GREATEST = {12, 5, 3};
    private static final Twins.Maker[] STATES = {Markets::rich, Markets::over, Markets::withoutGame};

    public static void main(String[] args) {
        nextPlayer();
        withoutWorker();
        whoHasPassed();
        sameOneAgain();
        endByLastWorker();
        endByPassing();
        noMoreThanRoom();
        fishFirst();
        saltThen();
        clothLast();
        eachPlayerLoses();
        greaterRoom();
        halfOfSalt();
        rainTakesSaltOnly();
        noRain();
        weatherOfEndedRound();
        roomAheadOfRain();
        backToHand();
        pricesRise();
        noPriceAboveNine();
        dieOncePerRound();
        firstPlayer();
        gameOver();
        moreRoundsThanTold();
        noTurns();
        goesOnBehindTheEnd();
        total();
        settingsAtFirst();
        settingsAtTheirEdges();
        settingsOutside();
        settingsWithoutGame();
        fewerSpots();
        moreSpots();
        passAnswers();
        passRefuses();
        playAtHundred();
        playAheadOfTheEnd();
        playWithoutPlacing();
        playRefuses();
        CHECK.end("EdgesOfRoundsTest");
    }

    private static SaltMarket ruled(int players, long seed, int toll, int spots) {
        SaltMarket x = new SaltMarket();
        x.set(1, toll);
        x.set(2, spots);
        x.begin(players, seed);
        return x;
    }

    private static SaltMarket moved(int players, long seed, int spots, String moves) {
        SaltMarket x = ruled(players, seed, 1, spots);
        Markets.move(x, moves);
        return x;
    }

    private static void due(String what, int want, int got) {
        CHECK.same(what, "" + want, "" + got);
    }

    // It is the turn of the next player (behind the last one comes the player 0).
    private static void nextPlayer() {
        for (int players = 2; players <= 4; players++) {
            SaltMarket x = ruled(players, 0, 0, 3);
            for (int turn = 0; turn < 3 * players; turn++) {
                due("11: whose turn it is, " + turn + " of " + players, turn % players, x.about(1));
                x.place(new int[] {0, 1, 5}[turn / players], 0);
            }
            SaltMarket y = Markets.begun(players, 0);
            for (int p = 1; p < players; p++) {
                due("12: behind passing", p, y.pass());
            }
        }
    }

    // .. who has a worker at hand. The player 1 has hired one.
    private static void withoutWorker() {
        SaltMarket x = moved(2, 0, 3, "phpnp");
        due("7: no worker at hand", 0, x.player(0, 6));
        due("7: two workers at hand", 2, x.player(1, 6));
        x.place(1, 0);
        due("11: who has no worker at hand is left out", 1, x.about(1));
        due("11: the round goes on with one worker at hand", 0, x.about(3));
        x.place(1, 0);
        due("11: the last one ends it", 1, x.about(3));
        SaltMarket y = moved(3, 0, 3, "phrpnr p");
        Markets.move(y, "np");
        due("11: the player 0 has none, the player 1 has one", 1, y.about(1));
        due("7: one worker", 1, y.player(1, 6));
    }

    // .. and has not passed.
    private static void whoHasPassed() {
        SaltMarket x = moved(3, 0, 2, "-rr");
        due("11: the first one has passed", 1, x.about(1));
        due("7: though workers are at hand", 3, x.player(0, 6));
        SaltMarket y = moved(4, 0, 2, "r--p");
        due("11: two between have not to be asked", 0, y.about(1));
        Markets.move(y, "n");
        due("11: they are left out", 3, y.about(1));
        SaltMarket z = moved(3, 0, 2, "pp-");
        due("11: the last one has passed", 0, z.about(1));
        Markets.move(z, "np");
        due("11: and is left out", 0, z.about(1));
    }

    // This can be the same one again.
    private static void sameOneAgain() {
        for (int players = 2; players <= 4; players++) {
            SaltMarket x = moved(players, 0, 3, "-".repeat(players - 1));
            for (int turn = 1; turn <= 3; turn++) {
                due("11: the last one, turn " + turn, players - 1, x.about(1));
                due("11: in the first round", 0, x.about(3));
                x.place(0, 0);
            }
            due("11: the round has ended with the third worker", 1, x.about(3));
        }
    }

    // If there is none, the round ends: by placing ..
    private static void endByLastWorker() {
        SaltMarket x = moved(2, 0, 3, "pppnnn");
        due("11: all six workers are placed", 1, x.about(3));
        SaltMarket y = moved(2, 0, 3, "pppnn");
        due("11: five of six are placed", 0, y.about(3));
        due("6: five are at places", 5, y.about(9));
    }

    // .. or by passing.
    private static void endByPassing() {
        for (int players = 2; players <= 4; players++) {
            SaltMarket x = moved(players, 0, 2, "-".repeat(players - 1));
            due("12: one has not passed", 0, x.about(3));
            x.pass();
            due("12: all have passed", 1, x.about(3));
        }
        SaltMarket y = moved(2, 0, 3, "ppppp");
        y.pass();
        due("12: one has passed, the other one has no worker", 1, y.about(3));
    }

    private static void goods(String name, SaltMarket x, int p, int salt, int fish, int cloth) {
        due(name + ": salt", salt, x.player(p, 1));
        due(name + ": fish", fish, x.player(p, 2));
        due(name + ": cloth", cloth, x.player(p, 3));
    }

    // 1. Each player loses goods, one after the other, until they are not more than the room.
    private static void noMoreThanRoom() {
        // Weather 6: six salt, or one fish.
        SaltMarket just = moved(2, 0, 3, "p--");
        goods("as many as the room", just, 0, 6, 0, 0);
        due("6: nothing is lost", 0, just.about(11));
        SaltMarket more = moved(2, 0, 3, "p-n-");
        goods("one more than the room", more, 0, 6, 0, 0);
        due("6: one is lost", 1, more.about(11));
        SaltMarket less = moved(2, 10, 3, "n--");
        goods("one less than the room", less, 0, 0, 5, 0);
        due("6: nothing is lost of five", 0, less.about(11));
    }

    // .. fish first ..
    private static void fishFirst() {
        // Weather 5: five salt, or two fish. Weather 2: two salt, or five fish.
        SaltMarket x = moved(2, 2, 3, "p-n-");
        goods("a fish of two is enough", x, 0, 5, 1, 0);
        due("6: one is lost", 1, x.about(11));
        SaltMarket y = moved(2, 10, 3, "n-l3-");
        goods("fish ahead of cloth", y, 0, 0, 0, 6);
        due("6: two are lost", 2, y.about(11));
        SaltMarket z = moved(2, 10, 3, "n-l1p");
        goods("fish ahead of salt and cloth", z, 0, 2, 4 - 2, 2);
    }

    // .. then salt ..
    private static void saltThen() {
        SaltMarket x = moved(2, 2, 3, "p-np");
        goods("salt, when there is no fish any more", x, 0, 6, 0, 0);
        due("6: six are lost", 6, x.about(11));
        SaltMarket y = moved(2, 10, 3, "n-l3p");
        goods("salt ahead of cloth", y, 0, 0, 0, 6);
        due("6: four are lost", 4, y.about(11));
        SaltMarket z = moved(2, 10, 3, "p-pp-");
        goods("salt as much as the room", z, 0, 6, 0, 0);
        due("6: nothing is lost", 0, z.about(11));
    }

    // .. then cloth.
    private static void clothLast() {
        SaltMarket x = moved(2, 10, 3, "n-l3l2");
        goods("cloth alone", x, 0, 0, 0, 6);
        due("6: four are lost", 4, x.about(11));
        // The second weather is 5: two fish, or five salt.
        SaltMarket y = moved(2, 10, 3, "n-l3- -nl1p");
        goods("fish, salt and cloth", y, 0, 0, 0, 6);
        due("6: two, and then one, five and two are lost", 2 + 1 + 5 + 2, y.about(11));
    }

    private static void eachPlayerLoses() {
        SaltMarket x = moved(2, 0, 3, "pnpp-p");
        goods("twelve salt", x, 0, 6, 0, 0);
        goods("twelve salt and a fish", x, 1, 6, 0, 0);
        due("6: six and seven are lost", 6 + 7, x.about(11));
        SaltMarket y = moved(3, 0, 3, "ppp nnn ---");
        for (int p = 0; p <= 2; p++) {
            goods("the player " + p, y, p, 6, 0, 0);
        }
        due("6: one of each is lost", 3, y.about(11));
    }

    // .. not more than the room: that of each player.
    private static void greaterRoom() {
        SaltMarket x = moved(2, 0, 3, "ppppr-");
        due("7: the room of 0", 9, x.player(0, 4));
        goods("a room of 9", x, 0, 9, 0, 0);
        goods("a room of 6", x, 1, 6, 0, 0);
        due("6: three and six are lost", 3 + 6, x.about(11));
    }

    // 2. If the weather is 1, each player loses half of the salt, rounded up.
    private static void halfOfSalt() {
        // Weather 1: a salt from the pans.
        rain(moved(2, 107, 3, "--"), 0, 0);
        rain(moved(2, 107, 3, "p--"), 0, 1);
        rain(moved(2, 107, 3, "p-p-"), 1, 1);
        rain(moved(2, 107, 3, "p-pp"), 1, 2);
        // Weather 5, then 1: of six salt some are sold.
        rain(moved(2, 2, 3, "p-m02- --"), 1, 2);
        rain(moved(2, 2, 3, "p-m01- --"), 2, 2);
        rain(moved(2, 2, 3, "p-- --"), 2, 3);
        rain(moved(2, 0, 3, "p-- --"), 3, 3);
        SaltMarket both = moved(3, 107, 3, "ppppp---");
        due("the player 0", 1, both.player(0, 1));
        due("the player 1", 1, both.player(1, 1));
        due("the player 2", 0, both.player(2, 1));
        due("6: one of each is lost", 3, both.about(11));
    }

    private static void rain(SaltMarket x, int left, int lost) {
        due("rain leaves", left, x.player(0, 1));
        due("rain takes", lost, x.about(11));
    }

    private static void rainTakesSaltOnly() {
        // Weather 1: six fish from the pier, or a salt.
        SaltMarket x = moved(2, 107, 3, "n-l3-");
        goods("no salt", x, 0, 0, 0, 6);
        due("6: three fish are too many", 3, x.about(11));
        SaltMarket y = moved(2, 107, 3, "n--");
        goods("fish", y, 0, 0, 6, 0);
        due("6: none is lost", 0, y.about(11));
    }

    private static void noRain() {
        for (int weather = 2; weather <= 6; weather++) {
            SaltMarket x = moved(2, SEEDS[weather - 1], 3, "p--");
            due("no rain with the weather " + weather, weather, x.player(0, 1));
            due("6: nothing is lost", 0, x.about(11));
        }
    }

    // The weather is that of the round that ends: the die is thrown behind it.
    private static void weatherOfEndedRound() {
        // Weather 6, then 1, then 2; weather 1, then 6.
        SaltMarket x = moved(2, 0, 3, "p--");
        due("6: it rains in the next round", 1, x.about(2));
        due("no rain so far", 6, x.player(0, 1));
        Markets.pass(x, 2);
        due("6: the rain is over", 2, x.about(2));
        due("rain at the end of its round", 3, x.player(0, 1));
        SaltMarket y = moved(2, 150, 3, "p--");
        due("6: the weather behind the rain", 6, y.about(2));
        due("the rain took the salt", 0, y.player(0, 1));
    }

    // First what has no room is lost, and then what the rain takes.
    private static void roomAheadOfRain() {
        // Of 8 salt first 2, then 3; the other way it would be 4.
        SaltMarket x = moved(2, 0, 3, "p-- -pp-");
        goods("eight salt", x, 0, 3, 0, 0);
        due("6: five are lost", 5, x.about(11));
        // Of 6 salt and 6 fish first the fish, then 3 salt; the other way 3 fish would be left.
        SaltMarket y = moved(2, 0, 3, "p-- -n-");
        goods("six salt and six fish", y, 0, 3, 0, 0);
        due("6: nine are lost", 9, y.about(11));
    }

    // 3. All workers come back to hand, nobody has passed.
    private static void backToHand() {
        // One spot: the player 2 bumps the player 1; the player 0 has hired a worker.
        SaltMarket x = moved(3, 0, 1, "hpp -n");
        due("6: one was bumped", 1, x.about(10));
        Markets.move(x, "--");
        due("6: the round has ended", 1, x.about(3));
        due("7: of the player 0", 4, x.player(0, 6));
        due("7: of the player 1, whose one was away", 3, x.player(1, 6));
        due("7: of the player 2", 3, x.player(2, 6));
        due("6: nobody is at a place", 0, x.about(9));
        for (int p = 0; p <= 2; p++) {
            due("7: nobody has passed, " + p, 0, x.player(p, 7));
        }
        for (int place = 0; place <= 5; place++) {
            due("8: nobody is at the place " + place, -1, x.worker(place, 0));
        }
        due("17: all spots are free", -1, x.bumps(0));
    }

    // 4. Each price becomes 1 more ..
    private static void pricesRise() {
        SaltMarket x = moved(2, 0, 3, "ppm03m01 --");
        due("6: salt, from 1", 2, x.about(5));
        due("6: fish, from 3", 4, x.about(6));
        due("6: cloth, from 6", 7, x.about(7));
    }

    // .. but not more than 9.
    private static void noPriceAboveNine() {
        SaltMarket x = Markets.begun(2, 0);
        x.set(0, 12);
        for (int round = 1; round <= 11; round++) {
            Markets.pass(x, 2);
            due("6: salt behind round " + round, round < 6 ? 3 + round : 9, x.about(5));
            due("6: fish behind round " + round, round < 6 ? 3 + round : 9, x.about(6));
            due("6: cloth behind round " + round, round < 3 ? 6 + round : 9, x.about(7));
        }
    }

    // 5. The die is thrown: once for each round, and not within it.
    private static void dieOncePerRound() {
        int[] weather = {6, 1, 2, 5, 6, 6, 3};
        SaltMarket x = Markets.begun(2, 0);
        for (int round = 0; round < 6; round++) {
            due("6: weather of round " + round, weather[round], x.about(2));
            x.place(0, 0);
            due("6: weather within round " + round, weather[round], x.about(2));
            due("21: the next one", weather[round + 1], x.weather(1));
            while (x.about(3) == round) {
                x.pass();
            }
        }
        due("6: the die is thrown behind the last round too", weather[6], x.about(2));
    }

    // The first player of the next round is the one behind the first one of this one (at first the player 0).
    private static void firstPlayer() {
        for (int players = 2; players <= 4; players++) {
            SaltMarket x = Markets.begun(players, 0);
            x.set(0, 12);
            for (int round = 0; round < 12; round++) {
                due("6: first of round " + round + " of " + players, round % players, x.about(8));
                due("6: it is the turn of the first", round % players, x.about(1));
                Markets.pass(x, 1);
                due("6: the first one stays within the round", round % players, x.about(8));
                Markets.pass(x, players - 1);
            }
        }
        // The last turn of the round does not matter.
        SaltMarket y = moved(3, 0, 2, "-r-pn");
        due("6: the second player is first", 1, y.about(8));
    }

    // The game is over when so many rounds have ended as setting 0 tells (1 to 12).
    private static void gameOver() {
        for (int rounds = 1; rounds <= 12; rounds++) {
            SaltMarket x = Markets.begun(2, rounds);
            x.set(0, rounds);
            Markets.pass(x, 2 * rounds - 1);
            due("6: a turn ahead of the end of " + rounds, 0, x.about(4));
            due("6: rounds", rounds - 1, x.about(3));
            due("12: the last passing", -1, x.pass());
            due("6: the end of " + rounds, 1, x.about(4));
            due("6: all rounds", rounds, x.about(3));
        }
    }

    // .. or more. Whether the game is over is asked by the settings of now.
    private static void moreRoundsThanTold() {
        SaltMarket x = Markets.begun(2, 0);
        Markets.pass(x, 6);
        for (int rounds = 1; rounds <= 12; rounds++) {
            x.set(0, rounds);
            due("6: three rounds of " + rounds, rounds <= 3 ? 1 : 0, x.about(4));
            due("6: whose turn it is, with " + rounds, rounds <= 3 ? -1 : 1, x.about(1));
        }
    }

    // .. then there are no turns.
    private static void noTurns() {
        TWINS.due("6: whose turn it is", -1, Markets::over, x -> x.about(1));
        TWINS.due("6: it is over", 1, Markets::over, x -> x.about(4));
        TWINS.dueState("11: no placing", Markets::over, x -> x.place(0, 0));
        TWINS.dueState("12: no passing", Markets::over, x -> x.pass());
        TWINS.dueState("13: no playing", Markets::over, x -> x.play());
        TWINS.due("18: no best placing", -1, Markets::over, x -> x.best(0));
        // Over by a smaller setting, within a round.
        Twins.Maker within = () -> {
            SaltMarket x = moved(2, 0, 2, "-- pn");
            x.set(0, 1);
            return x;
        };
        TWINS.due("6: whose turn it is, within a round", -1, within, x -> x.about(1));
        TWINS.dueState("11: no placing within a round", within, x -> x.place(0, 0));
        TWINS.dueState("12: no passing within a round", within, x -> x.pass());
        TWINS.dueState("13: no playing within a round", within, x -> x.play());
        due("6: workers stay at places", 2, within.make().about(9));
    }

    private static void goesOnBehindTheEnd() {
        SaltMarket x = moved(2, 0, 2, "-- pn");
        String before = View.of(x);
        x.set(0, 1);
        x.set(0, 6);
        CHECK.same("14: within a round it goes on as before", before, View.of(x));
        x.set(0, 2);
        while (x.about(4) == 0) {
            x.pass();
        }
        x.set(0, 3);
        due("14: behind the last round it goes on with the next one", 0, x.about(1));
        due("11: a placing is possible again", -1, x.place(1, 0));
    }

    // The total of a player is the coins, and 1 for each salt and each fish, 2 for each cloth, 3 for each worker.
    private static void total() {
        due("7: at first", 5 + 9, Markets.begun(2, 0).player(0, 8));
        due("7: salt", 5 + 6 + 9, moved(2, 0, 2, "p").player(0, 8));
        due("7: fish", 5 + 5 + 9, moved(2, 10, 2, "n").player(0, 8));
        due("7: cloth", 2 + 2 + 2 * 6 + 9, moved(2, 10, 2, "n-l3").player(0, 8));
        due("7: a hired worker", 0 + 12, moved(2, 0, 2, "h").player(0, 8));
        due("7: the room does not count", 3 + 9, moved(2, 0, 2, "r").player(0, 8));
        due("7: a bumped worker counts", 5 + 1 + 6 + 9, moved(2, 0, 1, "pp").player(0, 8));
        due("7: who bumps", 5 - 1 + 6 + 9, moved(2, 0, 1, "pp").player(1, 8));
    }

    // 0: the rounds, at first 6; 1: what a bumped one gets, at first 1; 2: the spots, at first 2.
    private static void settingsAtFirst() {
        SaltMarket x = new SaltMarket();
        due("14: the rounds", 6, x.set(0, 1));
        due("14: what a bumped one gets", 1, x.set(1, 0));
        due("14: the spots", 2, x.set(2, 1));
    }

    // 1 to 12, 0 to 5, 1 to 3. Returns the previous one.
    private static void settingsAtTheirEdges() {
        for (int what = 0; what <= 2; what++) {
            SaltMarket x = Markets.rich();
            int before = x.setting(what);
            for (int v = LEAST[what]; v <= GREATEST[what]; v++) {
                due("14: set(" + what + ", " + v + ")", before, x.set(what, v));
                due("9: setting(" + what + ")", v, x.setting(what));
                before = v;
            }
            due("14: from the greatest to the least", GREATEST[what], x.set(what, LEAST[what]));
            due("14: the same again", LEAST[what], x.set(what, LEAST[what]));
        }
    }

    // Throws IllegalArgumentException if what or v is out of range.
    private static void settingsOutside() {
        for (Twins.Maker maker : STATES) {
            for (int what = 0; what <= 2; what++) {
                for (int v : new int[] {LEAST[what] - 1, GREATEST[what] + 1, Integer.MIN_VALUE, Integer.MAX_VALUE}) {
                    int k = what;
                    TWINS.dueArgument("14: set(" + what + ", " + v + ")", maker, x -> x.set(k, v));
                }
            }
            for (int what : new int[] {-1, 3, 4, Integer.MIN_VALUE, Integer.MAX_VALUE}) {
                TWINS.dueArgument("14: set(" + what + ", 1)", maker, x -> x.set(what, 1));
                TWINS.dueArgument("14: set(" + what + ", 0)", maker, x -> x.set(what, 0));
                TWINS.dueArgument("9: setting(" + what + ")", maker, x -> x.setting(what));
            }
        }
    }

    // The settings are there without a game too, and stay when one is begun.
    private static void settingsWithoutGame() {
        SaltMarket x = new SaltMarket();
        x.set(0, 1);
        x.set(1, 5);
        x.set(2, 1);
        x.begin(2, 0);
        Markets.move(x, "p");
        due("11: one spot", 0, x.place(0, 0));
        due("11: five coins", 10, x.player(0, 0));
        Markets.move(x, "--");
        due("6: one round", 1, x.about(4));
    }

    // If the spots become fewer, workers stay, and a place with more of them is full.
    private static void fewerSpots() {
        for (int spots = 1; spots <= 2; spots++) {
            SaltMarket x = moved(3, 0, 3, "ppp");
            x.set(2, spots);
            due("14: the workers stay", 3, x.about(9));
            due("8: the first one", 0, x.worker(0, 0));
            due("8: the last one", 2, x.worker(0, 2));
            due("17: the place is full", 1, x.bumps(0));
            due("11: the place is full", 1, x.place(0, 0));
            due("14: there are still as many", 3, x.about(9));
            due("8: then the first one", 0, x.worker(0, 0));
            due("8: then the second one", 2, x.worker(0, 1));
            due("8: then the last one", 0, x.worker(0, 2));
            due("7: a worker was bumped", 2, x.player(1, 6));
        }
        Twins.Maker own = () -> {
            SaltMarket x = moved(2, 0, 3, "p-p");
            x.set(2, 1);
            return x;
        };
        TWINS.dueState("11: a full place with one's own", own, x -> x.place(0, 0));
    }

    private static void moreSpots() {
        SaltMarket x = moved(2, 0, 1, "p");
        due("17: the only spot is taken", 0, x.bumps(0));
        x.set(2, 2);
        due("17: a second spot", -1, x.bumps(0));
        due("11: a second spot", -1, x.place(0, 0));
        due("17: both are taken", 1, x.bumps(0));
        x.set(2, 3);
        due("11: a third spot", -1, x.place(0, 0));
        due("8: the third one", 0, x.worker(0, 2));
    }

    // Returns whose turn it is then, NONE if the game is over.
    private static void passAnswers() {
        SaltMarket x = Markets.begun(2, 0);
        x.set(0, 2);
        due("12: the next one", 1, x.pass());
        due("12: the first one of the next round", 1, x.pass());
        due("12: behind the last one the player 0", 0, x.pass());
        due("12: the game is over", -1, x.pass());
        SaltMarket y = moved(2, 0, 2, "-r");
        due("12: the next round, in which the same one is first", 1, y.pass());
    }

    // Throws IllegalStateException if there is no game, or it is over.
    private static void passRefuses() {
        TWINS.dueState("12: without a game", Markets::withoutGame, x -> x.pass());
        TWINS.dueState("12: when it is over", Markets::over, x -> x.pass());
        TWINS.dueState("12: in a new object", SaltMarket::new, x -> x.pass());
    }

    // The best placing, if its brings() is more than 100, and otherwise passes.
    private static void playAtHundred() {
        // Weather 6, bumping for five: 101 at the pans, and at the pier.
        SaltMarket more = ruled(3, 0, 5, 1);
        Markets.move(more, "p");
        due("18: 101", 101, more.best(0));
        due("13: 101 is more than 100", 101, more.play());
        due("8: it is placed", 1, more.worker(0, 0));
        // Weather 2, bumping for five: five fish for five coins.
        SaltMarket just = ruled(2, 10, 5, 1);
        Markets.move(just, "pnm01l3");
        due("18: 100", 100, just.best(0));
        due("13: 100 is not more than 100", -1, just.play());
        due("7: the player has passed", 1, just.player(0, 7));
        due("6: nothing is placed", 4, just.about(9));
    }

    // Returns its brings() ahead of it: what the end of the round takes is not taken off.
    private static void playAheadOfTheEnd() {
        SaltMarket x = moved(2, 0, 3, "p-p");
        due("16: six salt more", 106, x.brings(0, 0));
        due("13: six salt more", 106, x.play());
        due("6: the round has ended by it", 1, x.about(3));
        due("6: twelve salt are lost", 12, x.about(11));
    }

    // NONE for passing: also when no placing is possible.
    private static void playWithoutPlacing() {
        SaltMarket x = moved(2, 0, 1, "hpnm01");
        due("18: no placing is possible", -1, x.best(0));
        due("13: passing", -1, x.play());
        due("7: the player has passed", 1, x.player(0, 7));
        SaltMarket y = moved(2, 0, 1, "hpnm01-");
        y.set(0, 1);
        int answer = y.play();
        while (answer != -1) {
            answer = y.play();
        }
        due("13: the last passing ends the game", 1, y.about(4));
    }

    private static void playRefuses() {
        TWINS.dueState("13: without a game", Markets::withoutGame, x -> x.play());
        TWINS.dueState("13: when it is over", Markets::over, x -> x.play());
        TWINS.dueState("13: in a new object", SaltMarket::new, x -> x.play());
    }
}
