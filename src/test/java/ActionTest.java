/** Promises 10 to 15: begin, place, pass, play, set, undo. */
public final class ActionTest {
    private static final Check CHECK = new Check();

    public static void main(String[] args) {
        begin();
        placeRefuses();
        placeBumps();
        placeCannotBump();
        fewerSpots();
        loom();
        stall();
        hall();
        store();
        payBehindBumping();
        turns();
        roundEnds();
        rain();
        prices();
        pass();
        play();
        set();
        undo();
        CHECK.end("ActionTest");
    }

    private static void begin() {
        SaltMarket x = new SaltMarket();
        CHECK.due("10: begin(3, 2026)", 4, () -> x.begin(3, 2026));
        CHECK.due("10: begin(2, 0)", 6, () -> x.begin(2, 0));
        CHECK.due("10: begin(2, 5)", 5, () -> x.begin(2, 5));
        CHECK.due("10: begin(2, -1)", weatherOf(-1), () -> x.begin(2, -1));
        CHECK.due("10: begin(2, least)", weatherOf(Long.MIN_VALUE), () -> x.begin(2, Long.MIN_VALUE));
        CHECK.due("10: begin(4, greatest)", weatherOf(Long.MAX_VALUE), () -> x.begin(4, Long.MAX_VALUE));
        x.set(0, 4);
        x.place(0, 0);
        x.begin(3, 9);
        CHECK.due("10: the settings stay", 4, () -> x.setting(0));
        CHECK.due("10: no worker is placed", 0, () -> x.about(9));
        CHECK.due("10: no salt", 0, () -> x.player(0, 1));
        CHECK.dueArgument("10: begin(1, 0)", x, () -> x.begin(1, 0));
        CHECK.dueArgument("10: begin(5, 0)", x, () -> x.begin(5, 0));
        CHECK.dueArgument("10: begin(-2, 0)", x, () -> x.begin(-2, 0));
    }

    /** The weather that a seed brings, reckoned with numbers of any length. */
    private static int weatherOf(long seed) {
        java.math.BigInteger all = java.math.BigInteger.ONE.shiftLeft(64);
        java.math.BigInteger x = java.math.BigInteger.valueOf(seed)
            .multiply(new java.math.BigInteger("6364136223846793005"))
            .add(new java.math.BigInteger("1442695040888963407")).mod(all);
        return 1 + x.shiftRight(33).mod(java.math.BigInteger.valueOf(6)).intValue();
    }

    private static void placeRefuses() {
        SaltMarket none = new SaltMarket();
        CHECK.dueState("11: place(0, 0) without a game", none, () -> none.place(0, 0));
        CHECK.dueArgument("11: place(0, 1) without a game", none, () -> none.place(0, 1));
        CHECK.dueIndex("11: place(6, 1) without a game", none, () -> none.place(6, 1));
        SaltMarket x = Markets.begun(2, 0);
        CHECK.dueIndex("11: place(-1, 0)", x, () -> x.place(-1, 0));
        CHECK.dueIndex("11: place(6, 0)", x, () -> x.place(6, 0));
        for (int place = 0; place <= 5; place++) {
            for (int choice = -40; choice <= 140; choice++) {
                if (!Model.isChoice(place, choice)) {
                    int q = place;
                    int c = choice;
                    CHECK.dueArgument("11: place(" + q + ", " + c + ")", x, () -> x.place(q, c));
                }
            }
        }
        CHECK.dueArgument("11: place(3, least)", x, () -> x.place(3, Integer.MIN_VALUE));
        CHECK.dueArgument("11: place(3, greatest)", x, () -> x.place(3, Integer.MAX_VALUE));
        CHECK.dueState("11: nothing to weave", x, () -> x.place(2, 1));
        CHECK.dueState("11: nothing to sell", x, () -> x.place(3, 1));
        x.set(0, 1);
        Markets.pass(x, 2);
        CHECK.dueState("11: the game is over", x, () -> x.place(0, 0));
        CHECK.dueArgument("11: the game is over, wrong choice", x, () -> x.place(0, 1));
    }

    private static void placeBumps() {
        SaltMarket x = Markets.begun(2, 0);
        CHECK.due("11: the first spot", -1, () -> x.place(0, 0));
        CHECK.due("11: the second spot", -1, () -> x.place(0, 0));
        CHECK.due("11: salt by the weather", 6, () -> x.player(1, 1));
        CHECK.due("11: the other one is bumped", 1, () -> x.place(0, 0));
        CHECK.due("11: who bumps pays", 4, () -> x.player(0, 0));
        CHECK.due("11: who is bumped gets it", 6, () -> x.player(1, 0));
        CHECK.due("11: a bumped worker is away", 2, () -> x.player(1, 6));
        CHECK.due("11: the first one stays", 0, () -> x.worker(0, 0));
        CHECK.due("11: the new one is behind it", 0, () -> x.worker(0, 1));
        CHECK.due("11: the place works", 12, () -> x.player(0, 1));
        CHECK.due("11: the first of two is bumped", 0, () -> x.place(0, 0));
        CHECK.due("11: the second stands first", 0, () -> x.worker(0, 0));
        CHECK.due("11: the new one stands last", 1, () -> x.worker(0, 1));
        CHECK.due("11: two were bumped", 2, () -> x.about(10));
        x.set(1, 3);
        CHECK.due("11: bumping for three", 1, () -> x.place(0, 0));
        CHECK.due("11: three are paid", 2, () -> x.player(0, 0));
        CHECK.due("11: three are got", 8, () -> x.player(1, 0));
        SaltMarket pier = Markets.begun(2, 10);
        pier.place(1, 0);
        CHECK.due("11: seven less the weather in fish", 5, () -> pier.player(0, 2));
    }

    private static void placeCannotBump() {
        SaltMarket x = Markets.begun(2, 0);
        x.set(2, 1);
        x.set(1, 5);
        x.place(0, 0);
        x.place(1, 0);
        CHECK.dueState("11: only one's own worker there", x, () -> x.place(0, 0));
        CHECK.due("11: all coins are enough", 1, () -> x.place(1, 0));
        CHECK.due("11: no coin is left", 0, () -> x.player(0, 0));
        x.begin(2, 0);
        x.set(1, 0);
        x.place(0, 0);
        CHECK.due("11: bumping for nothing", 0, () -> x.place(0, 0));
        CHECK.due("11: nothing is paid", 5, () -> x.player(1, 0));
        x.set(1, 5);
        x.place(5, 0);
        x.pass();
        CHECK.dueState("11: three coins are not five", x, () -> x.place(0, 0));
        x.set(1, 4);
        CHECK.dueState("11: three coins are not four", x, () -> x.place(0, 0));
        x.set(1, 3);
        CHECK.due("11: three coins are three", 1, () -> x.place(0, 0));
    }

    private static void fewerSpots() {
        SaltMarket x = Markets.begun(3, 0);
        x.set(2, 3);
        x.place(0, 0);
        x.place(0, 0);
        x.place(0, 0);
        x.set(2, 1);
        CHECK.due("14: the workers stay", 3, () -> x.about(9));
        CHECK.due("14: a place with more is full", 1, () -> x.place(0, 0));
        CHECK.due("14: as many are there", 3, () -> x.about(9));
        CHECK.due("14: the first one", 0, () -> x.worker(0, 0));
        CHECK.due("14: the second one", 2, () -> x.worker(0, 1));
        CHECK.due("14: the last one", 0, () -> x.worker(0, 2));
    }

    private static void loom() {
        // Weather 2: five fish from the pier.
        SaltMarket x = Markets.begun(2, 10);
        x.place(1, 0);
        x.place(0, 0);
        CHECK.due("11: the loom with 3", -1, () -> x.place(2, 3));
        CHECK.due("11: three fish are given", 2, () -> x.player(0, 2));
        CHECK.due("11: three coins are paid", 2, () -> x.player(0, 0));
        CHECK.due("11: six cloth are got", 6, () -> x.player(0, 3));
        x.pass();
        CHECK.dueState("11: two fish are not three", x, () -> x.place(2, 3));
        CHECK.due("11: the loom with 2", -1, () -> x.place(2, 2));
        CHECK.due("11: two fish more", 0, () -> x.player(0, 2));
        CHECK.due("11: two coins more", 0, () -> x.player(0, 0));
        CHECK.due("11: four cloth more, and the round ends with a room for 6", 6, () -> x.player(0, 3));
        CHECK.due("11: four cloth are lost", 4, () -> x.about(11));
        SaltMarket y = Markets.begun(2, 10);
        y.place(1, 0);
        y.pass();
        y.place(4, 0);
        CHECK.dueState("11: fish, but no coin", y, () -> y.place(2, 1));
        y.undo();
        y.place(5, 0);
        y.place(5, 0);
        y.pass();
        CHECK.due("11: a coin is left", 1, () -> y.player(0, 0));
        CHECK.dueState("11: fish, but one coin for two", y, () -> y.place(2, 2));
        CHECK.due("11: one coin for one", -1, () -> y.place(2, 1));
        CHECK.due("11: two cloth", 2, () -> y.player(0, 3));
        CHECK.due("11: all coins are paid", 0, () -> y.player(0, 0));
    }

    private static void stall() {
        // Weather 6: six salt from the pans, one fish from the pier.
        SaltMarket x = Markets.begun(2, 0);
        x.set(2, 3);
        x.place(0, 0);
        x.place(0, 0);
        CHECK.due("11: three salt", -1, () -> x.place(3, 3));
        CHECK.due("11: for 3, 2 and 1", 11, () -> x.player(0, 0));
        CHECK.due("11: three are given", 3, () -> x.player(0, 1));
        CHECK.due("11: the price has fallen", 1, () -> x.about(5));
        x.place(3, 3);
        CHECK.due("11: for 1 each", 8, () -> x.player(1, 0));
        CHECK.due("11: the price is not less than 1", 1, () -> x.about(5));
        x.place(1, 0);
        x.place(1, 0);
        // The round has ended; the weather is 1: six fish from the pier.
        CHECK.due("11: the next round", 1, () -> x.about(3));
        CHECK.dueState("11: one fish is not two", x, () -> x.place(3, 12));
        CHECK.due("11: a fish", -1, () -> x.place(3, 11));
        CHECK.due("11: for 4", 12, () -> x.player(1, 0));
        CHECK.due("11: the price of fish has fallen", 3, () -> x.about(6));
        CHECK.due("11: the price of cloth stays", 7, () -> x.about(7));
        x.place(2, 1);
        x.pass();
        CHECK.dueState("11: two cloth are not three", x, () -> x.place(3, 23));
        CHECK.due("11: one cloth", -1, () -> x.place(3, 21));
        CHECK.due("11: for 7", 11 - 1 + 7, () -> x.player(0, 0));
        CHECK.due("11: the price of cloth has fallen", 6, () -> x.about(7));
    }

    private static void hall() {
        SaltMarket x = Markets.begun(2, 0);
        x.set(2, 3);
        x.place(4, 0);
        CHECK.due("11: five coins are paid", 0, () -> x.player(0, 0));
        CHECK.due("11: a worker more", 4, () -> x.player(0, 5));
        CHECK.due("11: who is at hand", 3, () -> x.player(0, 6));
        x.place(5, 0);
        CHECK.dueState("11: no coin for the hall", x, () -> x.place(4, 0));
        x.place(0, 0);
        CHECK.dueState("11: three coins for the hall", x, () -> x.place(4, 0));
        x.begin(2, 0);
        x.place(0, 0);
        x.pass();
        x.place(3, 3);
        x.place(4, 0);
        x.place(4, 0);
        CHECK.due("11: five workers", 5, () -> x.player(0, 5));
        CHECK.due("11: a coin is left", 1, () -> x.player(0, 0));
        x.pass();
        x.pass();
        x.place(1, 0);
        x.place(3, 13);
        CHECK.due("11: coins enough for the hall", 10, () -> x.player(0, 0));
        CHECK.dueState("11: there can be 5 workers", x, () -> x.place(4, 0));
    }

    private static void store() {
        SaltMarket x = Markets.begun(2, 0);
        x.place(5, 0);
        CHECK.due("11: two coins are paid", 3, () -> x.player(0, 0));
        CHECK.due("11: three more room", 9, () -> x.player(0, 4));
        x.set(2, 3);
        x.pass();
        x.place(5, 0);
        CHECK.dueState("11: one coin for the store", x, () -> x.place(5, 0));
        SaltMarket y = Markets.begun(2, 5);
        y.set(0, 12);
        int room = 6;
        for (int round = 0; round < 12 && room < 30; round++) {
            if (y.about(1) == 1) {
                y.pass();
            }
            boolean salt = y.about(2) >= 4;
            y.place(salt ? 0 : 1, 0);
            if (y.about(1) == 1) {
                y.pass();
            }
            y.place(3, salt ? 3 : 13);
            y.place(5, 0);
            room += 3;
            int now = room;
            CHECK.due("11: a room for " + room, now, () -> y.player(0, 4));
        }
        CHECK.due("11: the greatest room", 30, () -> y.player(0, 4));
        if (y.about(1) == 1) {
            y.pass();
        }
        CHECK.same("11: coins enough for the store", "true", "" + (y.player(0, 0) >= 2 && y.about(1) == 0));
        CHECK.dueState("11: the room can be 30", y, () -> y.place(5, 0));
    }

    private static void payBehindBumping() {
        SaltMarket x = Markets.begun(2, 0);
        x.set(2, 1);
        x.place(4, 0);
        CHECK.dueState("11: four coins behind bumping", x, () -> x.place(4, 0));
        x.set(1, 0);
        CHECK.due("11: five coins behind bumping for nothing", 0, () -> x.place(4, 0));
        SaltMarket y = Markets.begun(2, 0);
        y.set(2, 1);
        y.place(0, 0);
        y.place(1, 0);
        y.place(4, 0);
        y.place(3, 11);
        CHECK.dueState("11: the sale does not pay for bumping", y, () -> y.place(3, 1));
        y.set(1, 0);
        CHECK.due("11: a sale behind bumping for nothing", 1, () -> y.place(3, 1));
        CHECK.due("11: the sale is paid", 3, () -> y.player(0, 0));
    }

    private static void turns() {
        SaltMarket x = Markets.begun(3, 0);
        x.place(0, 0);
        CHECK.due("11: the next player", 1, () -> x.about(1));
        CHECK.due("12: pass() tells whose turn it is", 2, () -> x.pass());
        x.place(5, 0);
        CHECK.due("11: behind the last one the first", 0, () -> x.about(1));
        x.place(5, 0);
        CHECK.due("11: who has passed is left out", 2, () -> x.about(1));
        CHECK.due("12: the same one can follow", 0, () -> x.pass());
        CHECK.due("11: the last worker", -1, () -> x.place(1, 0));
        CHECK.due("11: with it the round ends", 1, () -> x.about(3));
        CHECK.due("11: the second one is first now", 1, () -> x.about(1));
        SaltMarket y = Markets.begun(2, 0);
        y.set(2, 3);
        y.place(4, 0);
        Markets.pass(y, 2);
        y.set(1, 0);
        // The player 0 has 4 workers now, and the player 1, who is first, has 3.
        for (int i = 0; i < 3; i++) {
            y.place(0, 0);
            y.place(1, 0);
        }
        CHECK.due("11: who has no worker at hand is left out", 0, () -> y.about(1));
        CHECK.due("11: the round goes on", 1, () -> y.about(3));
        y.place(0, 0);
        CHECK.due("11: behind the last worker it ends", 2, () -> y.about(3));
    }

    private static void roundEnds() {
        // Weather 2, 5, 6: the player 0 has salt 2, fish 3, cloth 4 at the end of the round.
        SaltMarket x = Markets.begun(2, 10);
        x.place(1, 0);
        x.pass();
        x.place(2, 2);
        CHECK.due("11: nothing is lost so far", 0, () -> x.about(11));
        x.place(0, 0);
        CHECK.due("11: the salt stays", 2, () -> x.player(0, 1));
        CHECK.due("11: the fish is lost first", 0, () -> x.player(0, 2));
        CHECK.due("11: the cloth stays", 4, () -> x.player(0, 3));
        CHECK.due("11: three are lost", 3, () -> x.about(11));
        CHECK.due("11: the weather is 5", 5, () -> x.about(2));
        CHECK.due("11: all are at hand", 3, () -> x.player(0, 6));
        CHECK.due("11: nobody has passed", 0, () -> x.player(1, 7));
        CHECK.due("11: no worker is at a place", 0, () -> x.about(9));
        CHECK.due("11: no worker is at the pier", -1, () -> x.worker(1, 0));
        x.pass();
        x.place(0, 0);
        x.place(1, 0);
        x.pass();
        CHECK.due("11: then the salt is lost", 2, () -> x.player(0, 1));
        CHECK.due("11: all fish is lost before it", 0, () -> x.player(0, 2));
        CHECK.due("11: the cloth stays then", 4, () -> x.player(0, 3));
        CHECK.due("11: 3 + 7 are lost", 10, () -> x.about(11));
        SaltMarket three = Markets.begun(3, 0);
        for (int round = 1; round <= 4; round++) {
            Markets.pass(three, 3);
            int first = round % 3;
            CHECK.due("11: the first player behind round " + round, first, () -> three.about(8));
            CHECK.due("11: it is the turn of the first player", first, () -> three.about(1));
        }
        SaltMarket full = Markets.begun(2, 0);
        full.place(0, 0);
        Markets.pass(full, 2);
        CHECK.due("11: as many goods as the room stay", 6, () -> full.player(0, 1));
    }

    private static void rain() {
        // Weather 6, then 1, then 2.
        SaltMarket x = Markets.begun(2, 0);
        x.place(0, 0);
        x.place(0, 0);
        x.place(3, 1);
        Markets.pass(x, 2);
        CHECK.due("11: no rain with 6", 5, () -> x.player(0, 1));
        Markets.pass(x, 2);
        CHECK.due("11: half of 5, rounded up, is lost", 2, () -> x.player(0, 1));
        CHECK.due("11: half of 6 is lost", 3, () -> x.player(1, 1));
        CHECK.due("11: six are lost", 6, () -> x.about(11));
        Markets.pass(x, 2);
        CHECK.due("11: no rain with 2", 2, () -> x.player(0, 1));
        SaltMarket y = Markets.begun(2, 0);
        y.place(0, 0);
        Markets.pass(y, 2);
        y.place(1, 0);
        y.place(0, 0);
        Markets.pass(y, 2);
        // The player 0 has 7 salt: one too many, and half of 6. The player 1 has 6 fish.
        CHECK.due("11: rain behind the room", 3, () -> y.player(0, 1));
        CHECK.due("11: fish do not mind the rain", 6, () -> y.player(1, 2));
    }

    private static void prices() {
        SaltMarket x = Markets.begun(2, 0);
        x.set(0, 12);
        for (int round = 1; round <= 8; round++) {
            Markets.pass(x, 2);
            int salt = Math.min(9, 3 + round);
            int cloth = Math.min(9, 6 + round);
            CHECK.due("11: the price of salt behind round " + round, salt, () -> x.about(5));
            CHECK.due("11: the price of fish behind round " + round, salt, () -> x.about(6));
            CHECK.due("11: the price of cloth behind round " + round, cloth, () -> x.about(7));
        }
    }

    private static void pass() {
        SaltMarket none = new SaltMarket();
        CHECK.dueState("12: pass() without a game", none, () -> none.pass());
        SaltMarket x = Markets.begun(4, 0);
        CHECK.due("12: the next one", 1, () -> x.pass());
        CHECK.due("12: who passed", 1, () -> x.player(0, 7));
        CHECK.due("12: who did not", 0, () -> x.player(1, 7));
        CHECK.due("12: the next one again", 2, () -> x.pass());
        CHECK.due("12: the last one", 3, () -> x.pass());
        CHECK.due("12: the first one of the next round", 1, () -> x.pass());
        CHECK.due("12: nobody has passed then", 0, () -> x.player(0, 7));
        x.set(0, 2);
        Markets.pass(x, 3);
        CHECK.due("12: the game is over then", -1, () -> x.pass());
        CHECK.dueState("12: pass() when it is over", x, () -> x.pass());
    }

    private static void play() {
        SaltMarket none = new SaltMarket();
        CHECK.dueState("13: play() without a game", none, () -> none.play());
        // Weather 6, and one spot a place; bumping costs 5.
        SaltMarket x = Markets.begun(2, 0);
        x.set(1, 5);
        x.set(2, 1);
        x.place(1, 0);
        CHECK.due("13: six salt", 106, () -> x.play());
        CHECK.due("13: at the pans", 1, () -> x.worker(0, 0));
        x.place(4, 0);
        x.pass();
        CHECK.due("13: a fish for 3", 102, () -> x.play());
        CHECK.due("13: it is sold", 3, () -> x.player(0, 0));
        CHECK.due("13: the store would bring 98", 98, () -> x.best(0));
        CHECK.due("13: passing", -1, () -> x.play());
        CHECK.due("13: the round has ended by it", 1, () -> x.about(3));
        CHECK.due("13: no room was paid", 3, () -> x.player(0, 0));
        // Weather 6: bumping at the pans for 5 brings 101, and so does the pier.
        SaltMarket y = Markets.begun(3, 0);
        y.set(1, 5);
        y.set(2, 1);
        y.place(0, 0);
        CHECK.due("13: 101 is more than 100", 101, () -> y.play());
        CHECK.due("13: the owner of the bumped one got 5", 10, () -> y.player(0, 0));
        y.set(0, 1);
        y.pass();
        Markets.pass(y, 2);
        CHECK.dueState("13: play() when it is over", y, () -> y.play());
        // Weather 2: five fish for 5 coins bring 100, which is not more than 100.
        SaltMarket z = Markets.begun(2, 10);
        z.set(1, 5);
        z.set(2, 1);
        z.place(0, 0);
        z.place(1, 0);
        z.place(3, 1);
        z.place(2, 3);
        CHECK.due("13: bumping a fisher brings 100", 100, () -> z.brings(1, 0));
        CHECK.due("13: that is the best", 100, () -> z.best(0));
        CHECK.due("13: 100 is not more than 100", -1, () -> z.play());
        CHECK.due("13: it has passed", 1, () -> z.player(0, 7));
    }

    private static void set() {
        SaltMarket x = new SaltMarket();
        CHECK.due("14: set(0, 1)", 6, () -> x.set(0, 1));
        CHECK.due("14: set(0, 12)", 1, () -> x.set(0, 12));
        CHECK.due("14: set(0, 12) again", 12, () -> x.set(0, 12));
        CHECK.due("14: set(1, 0)", 1, () -> x.set(1, 0));
        CHECK.due("14: set(1, 5)", 0, () -> x.set(1, 5));
        CHECK.due("14: set(2, 1)", 2, () -> x.set(2, 1));
        CHECK.due("14: set(2, 3)", 1, () -> x.set(2, 3));
        CHECK.dueArgument("14: set(0, 0)", x, () -> x.set(0, 0));
        CHECK.dueArgument("14: set(0, 13)", x, () -> x.set(0, 13));
        CHECK.dueArgument("14: set(1, -1)", x, () -> x.set(1, -1));
        CHECK.dueArgument("14: set(1, 6)", x, () -> x.set(1, 6));
        CHECK.dueArgument("14: set(2, 0)", x, () -> x.set(2, 0));
        CHECK.dueArgument("14: set(2, 4)", x, () -> x.set(2, 4));
        CHECK.dueArgument("14: set(3, 1)", x, () -> x.set(3, 1));
        CHECK.dueArgument("14: set(-1, 1)", x, () -> x.set(-1, 1));
        CHECK.dueArgument("14: set(greatest, 1)", x, () -> x.set(Integer.MAX_VALUE, 1));
    }

    private static void undo() {
        SaltMarket x = new SaltMarket();
        x.begin(2, 0);
        x.place(0, 0);
        x.set(1, 1);
        x.play();
        x.pass();
        CHECK.due("15: undo() of pass", 4, () -> x.undo());
        CHECK.due("15: whose turn it was", 0, () -> x.about(1));
        CHECK.due("15: undo() of play", 3, () -> x.undo());
        CHECK.due("15: whose turn it was then", 1, () -> x.about(1));
        CHECK.due("15: undo() of set with the same value", 2, () -> x.undo());
        CHECK.due("15: undo() of place", 1, () -> x.undo());
        CHECK.due("15: no salt", 0, () -> x.player(0, 1));
        CHECK.due("15: undo() of begin", 0, () -> x.undo());
        CHECK.due("15: no game", 0, () -> x.about(0));
        CHECK.dueState("15: nothing is remembered", x, () -> x.undo());
        rememberFourteen();
        whatIsNoAction();
        undoBringsAllBack();
    }

    private static void rememberFourteen() {
        SaltMarket x = new SaltMarket();
        for (int v = 1; v <= 12; v++) {
            x.set(0, v);
        }
        x.set(1, 2);
        x.set(1, 3);
        CHECK.due("15: fourteen are remembered", 13, () -> x.undo());
        x.set(1, 3);
        x.set(1, 4);
        x.set(1, 5);
        for (int left = 13; left >= 0; left--) {
            int k = left;
            CHECK.due("15: then are left " + left, k, () -> x.undo());
        }
        CHECK.due("15: the two oldest ones are forgotten", 2, () -> x.setting(0));
        CHECK.dueState("15: all are taken back", x, () -> x.undo());
    }

    private static void whatIsNoAction() {
        SaltMarket x = Markets.typed("S200");
        x.begin(2, 0);
        x.begin(2, 0);
        Check.answerOf(() -> x.begin(5, 0));
        Check.answerOf(() -> x.place(9, 0));
        Check.answerOf(() -> x.place(0, 9));
        Check.answerOf(() -> x.place(2, 1));
        Check.answerOf(() -> x.set(0, 0));
        x.brings(0, 0);
        x.bumps(0);
        x.best(0);
        x.loses(0, 0);
        x.goesOn(4);
        x.weather(3);
        x.runScript(2, 10003000L);
        x.simulate(5, 30);
        x.save(0);
        x.append('p');
        x.errorPosition();
        CHECK.due("15: only two calls were actions", 2, () -> Markets.countRemembered(x));
        CHECK.due("15: the text is not taken back", 5, () -> x.clearText());
        CHECK.due("15: the slot is not taken back", 2, () -> x.restore(0));
    }

    private static void undoBringsAllBack() {
        SaltMarket x = Markets.begun(4, 2026);
        String[] views = new String[14];
        for (int i = 0; i < 14; i++) {
            views[i] = View.of(x);
            if (i == 4) {
                x.set(2, 1);
            } else if (i == 9) {
                x.begin(3, 8);
            } else {
                x.play();
            }
        }
        for (int i = 13; i >= 0; i--) {
            x.undo();
            CHECK.same("15: the state ahead of action " + i, views[i], View.of(x));
        }
        SaltMarket y = Markets.begun(2, 0);
        y.set(2, 3);
        y.place(0, 0);
        y.pass();
        y.place(0, 0);
        y.pass();
        CHECK.due("15: six are lost", 6, () -> y.about(11));
        CHECK.due("15: undo() of the round's end", 5, () -> y.undo());
        CHECK.due("15: nothing is lost then", 0, () -> y.about(11));
        CHECK.due("15: the salt is back", 12, () -> y.player(0, 1));
    }
}
