/** The boundary cases of "what there is" and "what would be": promises 6 to 9 and 16 to 21. */
public final class EdgesOfViewsTest {
    private static final Check CHECK = new Check();
    private static final Twins TWINS = new Twins(CHECK);
    private static final int[] CHOICES = {0, 0, 1, 1, 0, 0};
    // Every placing, in the order of the places and then of the choices.
    private static final int[] PLACES = {0, 1, 2, 2, 2, 3, 3, 3, 3, 3, 3, 3, 3, 3, 4, 5};
    private static final int[] ALL_CHOICES = {0, 0, 1, 2, 3, 1, 2, 3, 11, 12, 13, 21, 22, 23, 0, 0};
    private static final Twins.Maker[] STATES = {Markets::rich, Markets::over, Markets::withoutGame};
    private static final Twins.Maker[] GAMES = {Markets::rich, Markets::over};

    public static void main(String[] args) {
        aboutOutside();
        aboutWithoutGame();
        aboutWhenOver();
        countersOfAbout();
        playerOutside();
        playerInOrder();
        playerNumbers();
        workerOutside();
        workerNotSoMany();
        settingOutside();
        viewsChangeNothing();
        bringsNone();
        bringsAheadOfTheEnd();
        bringsBehindTheBumping();
        bumpsNone();
        bumpsWithoutCoins();
        bumpsWhateverThePlaceDoes();
        bestOutside();
        bestNone();
        bestLowestPlace();
        bestLowestChoice();
        bestOfAll();
        losesOutside();
        losesWhenOver();
        losesByRoom();
        losesByRain();
        losesWhatTheEndTakes();
        losesOfThisRound();
        goesOnOutside();
        goesOnNone();
        goesOnWhenOver();
        goesOnOfSeveral();
        goesOnAsPlayed();
        weatherOutside();
        weatherToCome();
        weatherNone();
        forecastsChangeNothing();
        CHECK.end("EdgesOfViewsTest");
    }

    private static void due(String what, int want, int got) {
        CHECK.same(what, "" + want, "" + got);
    }

    private static Twins.Maker ruled(int players, long seed, int toll, int spots, String moves) {
        return () -> {
            SaltMarket x = new SaltMarket();
            x.set(1, toll);
            x.set(2, spots);
            x.begin(players, seed);
            Markets.move(x, moves);
            return x;
        };
    }

    // Throws IllegalArgumentException if what is not 0 to 11.
    private static void aboutOutside() {
        for (Twins.Maker maker : STATES) {
            for (int what : new int[] {-1, 12, 13, Integer.MIN_VALUE, Integer.MAX_VALUE}) {
                TWINS.dueArgument("6: about(" + what + ")", maker, x -> x.about(what));
            }
        }
    }

    // 1 to 11 are 0 without a game; 0: the players, 0 without a game.
    private static void aboutWithoutGame() {
        Twins.Maker back = () -> {
            SaltMarket x = new SaltMarket();
            x.begin(3, 2026);
            Markets.move(x, "pnp");
            Markets.countRemembered(x);
            return x;
        };
        for (int what = 0; what <= 11; what++) {
            int k = what;
            TWINS.due("6: about(" + what + ") of a new object", 0, SaltMarket::new, x -> x.about(k));
            TWINS.due("6: about(" + what + ") without a game", 0, Markets::withoutGame, x -> x.about(k));
            TWINS.due("6: about(" + what + ") behind undo", 0, back, x -> x.about(k));
        }
    }

    // 1: whose turn it is, NONE if the game is over; 4: 1 if the game is over, otherwise 0.
    private static void aboutWhenOver() {
        SaltMarket x = Markets.begun(2, 0);
        x.set(0, 1);
        x.pass();
        due("6: ahead of the end: whose turn", 1, x.about(1));
        due("6: ahead of the end: over", 0, x.about(4));
        x.pass();
        due("6: behind the end: whose turn", -1, x.about(1));
        due("6: behind the end: over", 1, x.about(4));
        due("6: behind the end: players", 2, x.about(0));
        due("6: behind the end: rounds", 1, x.about(3));
    }

    // 9: the workers at places; 10: how often a worker was bumped so far; 11: the goods that were lost so far.
    private static void countersOfAbout() {
        SaltMarket x = ruled(2, 0, 0, 1, "").make();
        due("6: none at places", 0, x.about(9));
        Markets.move(x, "pppp");
        due("6: a bumped one is at no place", 1, x.about(9));
        due("6: bumped three times", 3, x.about(10));
        Markets.move(x, "--");
        due("6: bumped in rounds before", 3, x.about(10));
        due("6: six and six are lost", 12, x.about(11));
        Markets.move(x, "pp--");
        due("6: bumped in all rounds", 4, x.about(10));
        // Weather 1: six and one are one too many, and half of six.
        due("6: lost in all rounds", 12 + 1 + 3 + 1 + 3, x.about(11));
        x.begin(2, 0);
        due("6: a new game: bumped", 0, x.about(10));
        due("6: a new game: lost", 0, x.about(11));
    }

    // Throws IndexOutOfBoundsException if there is no such player, IllegalArgumentException if what is not 0 to 8.
    private static void playerOutside() {
        for (Twins.Maker maker : GAMES) {
            for (int p : new int[] {-1, 3, 4, Integer.MIN_VALUE, Integer.MAX_VALUE}) {
                TWINS.dueIndex("7: player(" + p + ", 0)", maker, x -> x.player(p, 0));
            }
            for (int what : new int[] {-1, 9, 10, Integer.MIN_VALUE, Integer.MAX_VALUE}) {
                TWINS.dueArgument("7: player(2, " + what + ")", maker, x -> x.player(2, what));
            }
        }
        for (int p = -1; p <= 4; p++) {
            int k = p;
            TWINS.dueIndex("7: player(" + p + ", 0) without a game", Markets::withoutGame, x -> x.player(k, 0));
        }
        TWINS.dueIndex("7: the third player of two", () -> Markets.begun(2, 0), x -> x.player(2, 0));
        TWINS.dueIndex("7: the fifth player of four", () -> Markets.begun(4, 0), x -> x.player(4, 0));
    }

    private static void playerInOrder() {
        TWINS.dueIndex("7: player(3, 9)", Markets::rich, x -> x.player(3, 9));
        TWINS.dueIndex("7: player(-1, -1)", Markets::rich, x -> x.player(-1, -1));
        TWINS.dueIndex("7: player(0, 9) without a game", Markets::withoutGame, x -> x.player(0, 9));
    }

    // 6: the workers at hand; 7: 1 if the player has passed, otherwise 0.
    private static void playerNumbers() {
        SaltMarket x = ruled(2, 0, 1, 3, "pppp").make();
        due("7: one at hand", 1, x.player(0, 6));
        x.place(0, 0);
        due("7: none at hand", 0, x.player(0, 6));
        due("7: without one at hand nobody has passed", 0, x.player(0, 7));
        SaltMarket y = ruled(3, 0, 1, 3, "-").make();
        due("7: passed", 1, y.player(0, 7));
        due("7: not passed", 0, y.player(1, 7));
        due("7: with all at hand", 3, y.player(0, 6));
        Markets.move(y, "--");
        due("7: in the next round", 0, y.player(0, 7));
    }

    // Throws IndexOutOfBoundsException if there is no such place, IllegalArgumentException if k is negative.
    private static void workerOutside() {
        for (Twins.Maker maker : STATES) {
            TWINS.dueIndex("8: worker(-1, 0)", maker, x -> x.worker(-1, 0));
            TWINS.dueIndex("8: worker(6, 0)", maker, x -> x.worker(6, 0));
            TWINS.dueIndex("8: worker(6, -1)", maker, x -> x.worker(6, -1));
            TWINS.dueIndex("8: worker(-1, least)", maker, x -> x.worker(-1, Integer.MIN_VALUE));
            for (int place = 0; place <= 5; place++) {
                int q = place;
                TWINS.dueArgument("8: worker(" + q + ", -1)", maker, x -> x.worker(q, -1));
                TWINS.dueArgument("8: worker(" + q + ", least)", maker, x -> x.worker(q, Integer.MIN_VALUE));
            }
        }
    }

    // NONE if there are not so many, or there is no game.
    private static void workerNotSoMany() {
        String[] moves = {"", "p", "pp", "ppp"};
        for (int count = 0; count <= 3; count++) {
            SaltMarket x = ruled(4, 0, 1, 3, moves[count]).make();
            for (int k = 0; k <= 5; k++) {
                due("8: worker " + k + " of " + count, k < count ? k : -1, x.worker(0, k));
            }
            due("8: the greatest of " + count, -1, x.worker(0, Integer.MAX_VALUE));
        }
        for (int place = 0; place <= 5; place++) {
            int q = place;
            TWINS.due("8: without a game", -1, Markets::withoutGame, x -> x.worker(q, 0));
            TWINS.due("8: the greatest without a game", -1, Markets::withoutGame, x -> x.worker(q, Integer.MAX_VALUE));
        }
    }

    private static void settingOutside() {
        for (Twins.Maker maker : STATES) {
            for (int what : new int[] {-1, 3, 4, Integer.MIN_VALUE, Integer.MAX_VALUE}) {
                TWINS.dueArgument("9: setting(" + what + ")", maker, x -> x.setting(what));
            }
        }
    }

    private static void viewsChangeNothing() {
        TWINS.due("6: about(1)", 0, Markets::rich, x -> x.about(1));
        TWINS.due("7: player(1, 0)", 10, Markets::rich, x -> x.player(1, 0));
        TWINS.due("8: worker(0, 0)", 0, Markets::rich, x -> x.worker(0, 0));
        TWINS.due("9: setting(0)", 3, Markets::rich, x -> x.setting(0));
    }

    // NONE if place() would throw IllegalStateException.
    private static void bringsNone() {
        for (int place = 0; place <= 5; place++) {
            int q = place;
            TWINS.due("16: without a game", -1, Markets::withoutGame, x -> x.brings(q, CHOICES[q]));
            TWINS.due("16: when it is over", -1, Markets::over, x -> x.brings(q, CHOICES[q]));
        }
        TWINS.due("16: nothing to weave", -1, ruled(2, 0, 1, 2, ""), x -> x.brings(2, 1));
        TWINS.due("16: nothing to sell", -1, ruled(2, 0, 1, 2, ""), x -> x.brings(3, 1));
        TWINS.due("16: too few coins for the hall", -1, ruled(2, 10, 1, 2, "r-"), x -> x.brings(4, 0));
        TWINS.due("16: too few coins for the store", -1, ruled(2, 10, 1, 3, "r-r"), x -> x.brings(5, 0));
        TWINS.due("16: one's own only", -1, ruled(2, 0, 0, 1, "p-"), x -> x.brings(0, 0));
    }

    // Behind the placing, ahead of the end of the round (if it ends).
    private static void bringsAheadOfTheEnd() {
        // The last worker brings six salt, of which six are lost then; then there is rain.
        TWINS.due("16: what is lost then is not counted", 106, ruled(2, 0, 1, 3, "p-p"), x -> x.brings(0, 0));
        TWINS.due("16: what the rain takes is not counted", 101, ruled(2, 107, 1, 3, "p-p"), x -> x.brings(0, 0));
        SaltMarket x = ruled(2, 0, 1, 3, "p-p").make();
        int before = x.player(0, 8);
        x.place(0, 0);
        due("7: though the total is less then", before + 6 - 12, x.player(0, 8));
    }

    // With 100 added to it: what is paid for bumping is taken off.
    private static void bringsBehindTheBumping() {
        for (int toll = 0; toll <= 5; toll++) {
            int left = 106 - toll;
            TWINS.due("16: bumping for " + toll, left, ruled(2, 0, toll, 1, "p"), x -> x.brings(0, 0));
        }
        TWINS.due("16: less than 100", 95, ruled(2, 0, 3, 1, "r"), x -> x.brings(5, 0));
        TWINS.due("16: the hired one counts three", 98, ruled(2, 0, 0, 1, "h"), x -> x.brings(4, 0));
    }

    // NONE if none would be, it is not possible, there is no game, or it is over.
    private static void bumpsNone() {
        for (int place = 0; place <= 5; place++) {
            int q = place;
            TWINS.due("17: an empty place", -1, ruled(3, 0, 1, 1, ""), x -> x.bumps(q));
            TWINS.due("17: without a game", -1, Markets::withoutGame, x -> x.bumps(q));
            TWINS.due("17: when it is over", -1, Markets::over, x -> x.bumps(q));
        }
        TWINS.due("17: a spot is free", -1, ruled(3, 0, 1, 3, "pp"), x -> x.bumps(0));
        TWINS.due("17: no spot is free", 0, ruled(3, 0, 1, 2, "pp"), x -> x.bumps(0));
        TWINS.due("17: only one's own", -1, ruled(3, 0, 1, 1, "p--"), x -> x.bumps(0));
        TWINS.due("17: two of one's own", -1, ruled(3, 0, 1, 2, "p--p"), x -> x.bumps(0));
        TWINS.due("17: behind one's own", 1, ruled(3, 0, 1, 2, "pp-"), x -> x.bumps(0));
        Twins.Maker over = () -> {
            SaltMarket x = ruled(2, 0, 1, 1, "-- p").make();
            x.set(0, 1);
            return x;
        };
        due("8: a worker is there", 1, over.make().worker(0, 0));
        TWINS.due("17: it is over within a round", -1, over, x -> x.bumps(0));
    }

    // Whether coins are enough, or not.
    private static void bumpsWithoutCoins() {
        Twins.Maker maker = ruled(2, 0, 1, 1, "ph-");
        due("7: no coins", 0, maker.make().player(1, 0));
        TWINS.due("17: without coins", 0, maker, x -> x.bumps(0));
        TWINS.dueState("11: but it is not possible", maker, x -> x.place(0, 0));
    }

    // Whose worker would be bumped, if one was placed there: what the place does then is not asked.
    private static void bumpsWhateverThePlaceDoes() {
        TWINS.due("17: the loom, for one who has fish", 0, ruled(2, 10, 1, 1, "nnl1"), x -> x.bumps(2));
        TWINS.due("17: the stall, for one who has salt", 0, ruled(2, 0, 1, 1, "ppm01"), x -> x.bumps(3));
        TWINS.due("17: the hall", 0, ruled(2, 0, 0, 1, "h"), x -> x.bumps(4));
        TWINS.due("17: the store", 0, ruled(2, 0, 0, 1, "r"), x -> x.bumps(5));
    }

    // Throws IllegalArgumentException if what is not 0 to 2.
    private static void bestOutside() {
        for (Twins.Maker maker : STATES) {
            for (int what : new int[] {-1, 3, Integer.MIN_VALUE, Integer.MAX_VALUE}) {
                TWINS.dueArgument("18: best(" + what + ")", maker, x -> x.best(what));
            }
        }
    }

    private static void dueBest(String name, Twins.Maker maker, int number, int place, int choice) {
        TWINS.due("18: " + name + ": the number", number, maker, x -> x.best(0));
        TWINS.due("18: " + name + ": the place", place, maker, x -> x.best(1));
        TWINS.due("18: " + name + ": the choice", choice, maker, x -> x.best(2));
    }

    // NONE if no placing is possible.
    private static void bestNone() {
        dueBest("without a game", Markets::withoutGame, -1, -1, -1);
        dueBest("a new object", SaltMarket::new, -1, -1, -1);
        dueBest("when it is over", Markets::over, -1, -1, -1);
        dueBest("no placing is possible", ruled(2, 0, 1, 1, "hpnm01"), -1, -1, -1);
    }

    // Of several the lowest place, ..
    private static void bestLowestPlace() {
        dueBest("pans and pier for 101", ruled(3, 0, 5, 1, "p"), 101, 0, 0);
        // Weather 3: four fish for one coin at the pier, three coins more than the salt at the stall.
        dueBest("pier and stall for 103", ruled(2, 4, 1, 1, "pn"), 103, 1, 0);
        // Bumping at pier or stall for 5 coins brings 96; less than 100 can be the best.
        dueBest("hall and store for 98", ruled(2, 0, 5, 1, "pnm01m11"), 98, 4, 0);
    }

    // .. then the lowest choice.
    private static void bestLowestChoice() {
        // The third salt is sold for 1, which brings nothing.
        dueBest("two or three salt for 103", ruled(2, 4, 2, 1, "pn"), 103, 3, 2);
    }

    // The best placing: that with the greatest brings(). In many states each placing that there is, is it now and then.
    private static void bestOfAll() {
        int[] often = new int[16];
        for (int seed = 0; seed < 500; seed++) {
            SaltMarket x = ruled(2 + seed % 3, seed, seed % 6, 1 + seed / 6 % 3, "").make();
            for (int turn = 0; turn < 30; turn++) {
                int found = -1;
                int most = -1;
                for (int i = 0; i < 16; i++) {
                    int brings = x.brings(PLACES[i], ALL_CHOICES[i]);
                    found = brings > most ? i : found;
                    most = Math.max(most, brings);
                }
                due("18: the number, seed " + seed, most, x.best(0));
                due("18: the place, seed " + seed, found < 0 ? -1 : PLACES[found], x.best(1));
                due("18: the choice, seed " + seed, found < 0 ? -1 : ALL_CHOICES[found], x.best(2));
                if (found >= 0) {
                    often[found]++;
                }
                anyTurn(x, seed * 31 + turn * 17);
            }
        }
        for (int i = 0; i < 16; i++) {
            CHECK.same("18: " + PLACES[i] + " with " + ALL_CHOICES[i] + " is the best", "true", "" + (often[i] > 0));
        }
    }

    private static void anyTurn(SaltMarket x, int any) {
        for (int i = 0; i < 5; i++) {
            int k = (any + 5 * i) % 16;
            if (x.brings(PLACES[k], ALL_CHOICES[k]) >= 0) {
                x.place(PLACES[k], ALL_CHOICES[k]);
                return;
            }
        }
        if (x.about(4) == 0) {
            x.pass();
        }
    }

    // Throws IndexOutOfBoundsException if there is no such player, IllegalArgumentException if what is not 0 to 2.
    private static void losesOutside() {
        for (Twins.Maker maker : GAMES) {
            for (int p : new int[] {-1, 3, 4, Integer.MIN_VALUE, Integer.MAX_VALUE}) {
                TWINS.dueIndex("19: loses(" + p + ", 0)", maker, x -> x.loses(p, 0));
                TWINS.dueIndex("19: loses(" + p + ", 3)", maker, x -> x.loses(p, 3));
            }
            for (int what : new int[] {-1, 3, Integer.MIN_VALUE, Integer.MAX_VALUE}) {
                TWINS.dueArgument("19: loses(2, " + what + ")", maker, x -> x.loses(2, what));
            }
        }
        for (int p = -1; p <= 4; p++) {
            int k = p;
            TWINS.dueIndex("19: loses(" + p + ", 0) without a game", Markets::withoutGame, x -> x.loses(k, 0));
            TWINS.dueIndex("19: loses(" + p + ", 3) without a game", Markets::withoutGame, x -> x.loses(k, 3));
        }
    }

    private static void dueLoss(String name, Twins.Maker maker, int p, int salt, int fish, int cloth) {
        TWINS.due("19: " + name + ": salt", salt, maker, x -> x.loses(p, 0));
        TWINS.due("19: " + name + ": fish", fish, maker, x -> x.loses(p, 1));
        TWINS.due("19: " + name + ": cloth", cloth, maker, x -> x.loses(p, 2));
    }

    // 0 if the game is over.
    private static void losesWhenOver() {
        Twins.Maker over = () -> {
            SaltMarket x = ruled(2, 0, 1, 3, "-- n-n").make();
            x.set(0, 1);
            return x;
        };
        due("7: twelve fish", 12, over.make().player(1, 2));
        dueLoss("twelve fish when it is over", over, 1, 0, 0, 0);
        Twins.Maker goesOn = () -> {
            SaltMarket x = over.make();
            x.set(0, 2);
            return x;
        };
        dueLoss("twelve fish when it goes on", goesOn, 1, 0, 6, 0);
    }

    private static void losesByRoom() {
        dueLoss("nothing", ruled(2, 0, 1, 3, ""), 0, 0, 0, 0);
        dueLoss("as many as the room", ruled(2, 0, 1, 3, "p"), 0, 0, 0, 0);
        dueLoss("one fish more", ruled(2, 0, 1, 3, "p-n"), 0, 0, 1, 0);
        dueLoss("of two fish one", ruled(2, 2, 1, 3, "p-n"), 0, 0, 1, 0);
        // The player 0 has hired a worker, so that the round goes on behind the last one of the player 1.
        dueLoss("all fish, and salt", ruled(2, 2, 0, 3, "hpnnnp"), 1, 4, 2, 0);
        dueLoss("fish and salt ahead of cloth", ruled(2, 10, 0, 3, "hnnl3np"), 1, 2, 2, 0);
        dueLoss("cloth alone", ruled(2, 10, 0, 3, "hnnl3nl2"), 1, 0, 0, 4);
        dueLoss("fish, salt and cloth", ruled(2, 10, 0, 3, "hnnl3-- nnl1np"), 1, 5, 1, 2);
        dueLoss("a room of 9", ruled(2, 0, 0, 3, "pprpp"), 0, 3, 0, 0);
        dueLoss("a room of 6", ruled(2, 0, 0, 3, "pprpp"), 1, 6, 0, 0);
    }

    private static void losesByRain() {
        dueLoss("no salt", ruled(2, 107, 1, 3, "n"), 0, 0, 0, 0);
        dueLoss("one salt", ruled(2, 107, 1, 3, "p"), 0, 1, 0, 0);
        dueLoss("two salt", ruled(2, 107, 1, 3, "p-p"), 0, 1, 0, 0);
        dueLoss("three salt", ruled(2, 107, 1, 3, "pppp-"), 1, 1, 0, 0);
        dueLoss("five salt", ruled(2, 2, 1, 3, "p-- "), 0, 3, 0, 0);
        dueLoss("eight salt: two, and half of six", ruled(2, 0, 1, 3, "p-- -pp"), 0, 5, 0, 0);
        dueLoss("six salt and six fish", ruled(2, 0, 1, 3, "p-- -n"), 0, 3, 6, 0);
        for (long seed : new long[] {10, 4, 130, 2, 0}) {
            dueLoss("no rain with seed " + seed, ruled(2, seed, 1, 3, "p"), 0, 0, 0, 0);
        }
    }

    // What the end of this round would take from a player, if all passed now.
    private static void losesWhatTheEndTakes() {
        for (int seed = 0; seed < 40; seed++) {
            SaltMarket x = ruled(2 + seed % 3, seed, seed % 6, 1 + seed % 3, "").make();
            x.set(0, 12);
            for (int turn = 0; turn < 30 && x.about(4) == 0; turn++) {
                oneTurn(x, seed + turn);
                if (x.about(4) == 0) {
                    comparedWithPassing(x);
                }
            }
        }
    }

    private static void oneTurn(SaltMarket x, int any) {
        int place = any * 7 % 6;
        if (any % 4 != 0 && x.brings(place, CHOICES[place]) >= 0) {
            x.place(place, CHOICES[place]);
        } else {
            x.play();
        }
    }

    private static void comparedWithPassing(SaltMarket x) {
        int[] told = new int[12];
        int[] before = new int[12];
        for (int i = 0; i < 3 * x.about(0); i++) {
            told[i] = x.loses(i / 3, i % 3);
            before[i] = x.player(i / 3, 1 + i % 3);
        }
        x.save(0);
        int round = x.about(3);
        while (x.about(3) == round) {
            x.pass();
        }
        for (int i = 0; i < 3 * x.about(0); i++) {
            due("19: loses(" + i / 3 + ", " + i % 3 + ")", before[i] - x.player(i / 3, 1 + i % 3), told[i]);
        }
        x.restore(0);
    }

    private static void losesOfThisRound() {
        // Six salt: no rain in this round, in the next one there is.
        dueLoss("ahead of the rain", ruled(2, 0, 1, 3, "p-"), 0, 0, 0, 0);
        dueLoss("in the rain", ruled(2, 0, 1, 3, "p--"), 0, 3, 0, 0);
        dueLoss("behind the rain", ruled(2, 0, 1, 3, "p-- --"), 0, 0, 0, 0);
    }

    // Throws IllegalArgumentException if what is not 0 to 4.
    private static void goesOnOutside() {
        for (Twins.Maker maker : STATES) {
            for (int what : new int[] {-1, 5, Integer.MIN_VALUE, Integer.MAX_VALUE}) {
                TWINS.dueArgument("20: goesOn(" + what + ")", maker, x -> x.goesOn(what));
            }
        }
    }

    // 0 to 3: NONE if there is no such player; 4: NONE without a game.
    private static void goesOnNone() {
        for (int what = 0; what <= 4; what++) {
            int k = what;
            TWINS.due("20: goesOn(" + what + ") without a game", -1, Markets::withoutGame, x -> x.goesOn(k));
        }
        for (int players = 2; players <= 4; players++) {
            int count = players;
            for (int p = 0; p <= 3; p++) {
                SaltMarket x = Markets.begun(count, 0);
                CHECK.same("20: the player " + p + " of " + count, "" + (p < count), "" + (x.goesOn(p) != -1));
            }
        }
    }

    private static void goesOnWhenOver() {
        SaltMarket x = Markets.over();
        for (int p = 0; p <= 2; p++) {
            int k = p;
            TWINS.due("20: the total of now", x.player(k, 8), Markets::over, y -> y.goesOn(k));
        }
        TWINS.due("20: no fourth player", -1, Markets::over, y -> y.goesOn(3));
    }

    // The player with the greatest total then, of several the lowest.
    private static void goesOnOfSeveral() {
        leads("--", 2, 0);
        leads("r--", 2, 1);
        leads("p--", 2, 0);
        leads("-p-", 2, 1);
        leads("pp--", 2, 0);
        leads("----", 4, 0);
        leads("-rrr---", 4, 0);
        leads("rr----", 4, 2);
        leads("rrr----", 4, 3);
        leads("-pp---", 4, 1);
        leads("-pp-p--", 4, 2);
    }

    /** Who leads behind a game of one round, in which the moves are done. */
    private static void leads(String moves, int players, int leader) {
        SaltMarket x = Markets.moved(players, 0, moves.substring(0, moves.length() - 1));
        x.set(0, 1);
        x.pass();
        due("6: it is over behind " + moves, 1, x.about(4));
        due("20: who leads behind " + moves, leader, x.goesOn(4));
        due("20: the total", x.player(leader, 8), x.goesOn(leader));
    }

    // How the game would end, if all did as play() does.
    private static void goesOnAsPlayed() {
        for (int rounds = 1; rounds <= 12; rounds++) {
            SaltMarket x = Markets.begun(2 + rounds % 3, rounds);
            x.set(0, rounds);
            x.set(2, 1 + rounds % 3);
            int[] told = {x.goesOn(0), x.goesOn(1), x.goesOn(2), x.goesOn(3)};
            while (x.about(4) == 0) {
                x.play();
            }
            for (int p = 0; p <= 3; p++) {
                due("20: the player " + p + " behind rounds " + rounds, p < x.about(0) ? x.player(p, 8) : -1, told[p]);
            }
        }
    }

    // n: 1 to 12.
    private static void weatherOutside() {
        for (Twins.Maker maker : STATES) {
            for (int n : new int[] {-1, 0, 13, Integer.MIN_VALUE, Integer.MAX_VALUE}) {
                TWINS.dueArgument("21: weather(" + n + ")", maker, x -> x.weather(n));
            }
        }
    }

    // The weather that the n-th throw from now on would bring.
    private static void weatherToCome() {
        SaltMarket x = Markets.begun(2, 77);
        x.set(0, 12);
        int[] told = new int[13];
        for (int n = 1; n <= 12; n++) {
            told[n] = x.weather(n);
        }
        for (int n = 1; n <= 12; n++) {
            Markets.pass(x, 2);
            due("21: weather(" + n + ") as it came", x.about(2), told[n]);
        }
        due("6: it is over", 1, x.about(4));
        CHECK.same("21: there is a throw to come when it is over", "true", "" + (x.weather(12) >= 1));
    }

    // NONE without a game.
    private static void weatherNone() {
        for (int n = 1; n <= 12; n++) {
            int k = n;
            TWINS.due("21: weather(" + n + ")", -1, Markets::withoutGame, x -> x.weather(k));
        }
    }

    // These and all following methods up to the save slots change nothing.
    private static void forecastsChangeNothing() {
        Twins.Use[] uses = {x -> x.brings(0, 0), x -> x.brings(3, 1), x -> x.bumps(0), x -> x.best(0), x -> x.best(1),
            x -> x.best(2), x -> x.loses(0, 0), x -> x.goesOn(0), x -> x.goesOn(4), x -> x.weather(12),
            x -> x.runScript(3, 300020004005L), x -> x.runScript(1, 1000), x -> x.simulate(9, 80)};
        Twins.Maker crowded = () -> {
            SaltMarket x = Markets.rich();
            x.set(0, 12);
            Markets.move(x, "n");
            x.save(1);
            return x;
        };
        for (Twins.Use use : uses) {
            for (Twins.Maker maker : new Twins.Maker[] {crowded, Markets::rich, Markets::over}) {
                long answer = use.on(maker.make());
                TWINS.due("16 to 23: a forecast", answer, maker, use);
            }
        }
    }
}
