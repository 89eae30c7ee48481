/** Promises 16 to 21: brings, bumps, best, loses, goesOn, weather. */
public final class ForecastTest {
    private static final Check CHECK = new Check();

    public static void main(String[] args) {
        brings();
        bringsRefuses();
        bringsAheadOfTheEnd();
        bumps();
        best();
        bestOfSeveral();
        bestIsGreatestBrings();
        noneIsBest();
        loses();
        goesOn();
        weather();
        CHECK.end("ForecastTest");
    }

    private static void brings() {
        // Weather 6, 1: six salt, or one fish.
        SaltMarket x = Markets.begun(2, 0);
        CHECK.due("16: six salt", 106, () -> x.brings(0, 0));
        CHECK.due("16: a fish", 101, () -> x.brings(1, 0));
        CHECK.due("16: no fish to weave", -1, () -> x.brings(2, 1));
        CHECK.due("16: no cloth to sell", -1, () -> x.brings(3, 21));
        CHECK.due("16: a worker for 5", 98, () -> x.brings(4, 0));
        CHECK.due("16: a room for 2", 98, () -> x.brings(5, 0));
        String before = View.of(x);
        x.brings(0, 0);
        CHECK.same("16: nothing changes", before, View.of(x));
        x.place(0, 0);
        x.place(0, 0);
        CHECK.due("16: six salt less one coin", 105, () -> x.brings(0, 0));
        CHECK.due("16: one salt sold", 102, () -> x.brings(3, 1));
        CHECK.due("16: two salt sold", 103, () -> x.brings(3, 2));
        CHECK.due("16: three salt sold", 103, () -> x.brings(3, 3));
        x.place(1, 0);
        x.place(1, 0);
        CHECK.due("16: a fish and a coin are two cloth", 102, () -> x.brings(2, 1));
        CHECK.due("16: there is one fish", -1, () -> x.brings(2, 2));
        CHECK.due("16: a fish sold", 102, () -> x.brings(3, 11));
        x.set(1, 5);
        CHECK.due("16: bumping for all coins", 101, () -> x.brings(0, 0));
        x.set(1, 0);
        CHECK.due("16: bumping for nothing", 106, () -> x.brings(0, 0));
        x.place(2, 1);
        Markets.pass(x, 2);
        // In the next round a cloth costs 7.
        CHECK.due("16: a cloth sold", 105, () -> x.brings(3, 21));
        CHECK.due("16: two cloth sold", 109, () -> x.brings(3, 22));
        CHECK.due("16: there are two cloth", -1, () -> x.brings(3, 23));
    }

    private static void bringsRefuses() {
        SaltMarket x = Markets.begun(2, 0);
        CHECK.dueIndex("16: brings(-1, 0)", x, () -> x.brings(-1, 0));
        CHECK.dueIndex("16: brings(6, 1)", x, () -> x.brings(6, 1));
        for (int place = 0; place <= 5; place++) {
            for (int choice = -40; choice <= 140; choice++) {
                int q = place;
                int c = choice;
                if (!Model.isChoice(place, choice)) {
                    CHECK.dueArgument("16: brings(" + q + ", " + c + ")", x, () -> x.brings(q, c));
                }
            }
        }
        x.set(0, 1);
        Markets.pass(x, 2);
        CHECK.due("16: brings when it is over", -1, () -> x.brings(0, 0));
        SaltMarket none = new SaltMarket();
        CHECK.due("16: brings without a game", -1, () -> none.brings(0, 0));
        CHECK.dueArgument("16: brings(0, 1) without a game", none, () -> none.brings(0, 1));
    }

    private static void bringsAheadOfTheEnd() {
        SaltMarket x = Markets.begun(2, 0);
        x.place(0, 0);
        x.pass();
        x.place(0, 0);
        CHECK.due("16: what the end of the round takes is not counted", 101, () -> x.brings(1, 0));
        x.place(1, 0);
        CHECK.due("16: though it takes 7", 7, () -> x.about(11));
    }

    private static void bumps() {
        SaltMarket none = new SaltMarket();
        CHECK.due("17: bumps(0) without a game", -1, () -> none.bumps(0));
        CHECK.dueIndex("17: bumps(6) without a game", none, () -> none.bumps(6));
        SaltMarket x = Markets.begun(3, 0);
        CHECK.due("17: an empty place", -1, () -> x.bumps(0));
        x.place(0, 0);
        CHECK.due("17: a free spot", -1, () -> x.bumps(0));
        x.place(0, 0);
        CHECK.due("17: the first one", 0, () -> x.bumps(0));
        x.place(4, 0);
        CHECK.due("17: not one's own", 1, () -> x.bumps(0));
        x.set(2, 3);
        CHECK.due("17: a third spot", -1, () -> x.bumps(0));
        x.set(2, 1);
        x.set(1, 5);
        x.place(5, 0);
        x.place(1, 0);
        CHECK.due("17: whether coins are enough, or not", 0, () -> x.bumps(0));
        CHECK.dueState("17: they are not", x, () -> x.place(0, 0));
        x.pass();
        CHECK.due("17: one's own only", -1, () -> x.bumps(5));
        CHECK.due("17: another one's", 2, () -> x.bumps(4));
        CHECK.dueIndex("17: bumps(-1)", x, () -> x.bumps(-1));
        CHECK.dueIndex("17: bumps(6)", x, () -> x.bumps(6));
        SaltMarket over = Markets.begun(2, 0);
        over.set(2, 1);
        over.place(0, 0);
        CHECK.due("17: ahead of the end", 0, () -> over.bumps(0));
        over.place(1, 0);
        over.set(0, 2);
        Markets.pass(over, 2);
        over.place(0, 0);
        CHECK.due("17: in the next round", 1, () -> over.bumps(0));
        over.set(0, 1);
        CHECK.due("17: it is over", -1, () -> over.bumps(0));
    }

    private static void dueBest(String name, SaltMarket x, int number, int place, int choice) {
        CHECK.due("18: " + name + ", the number", number, () -> x.best(0));
        CHECK.due("18: " + name + ", the place", place, () -> x.best(1));
        CHECK.due("18: " + name + ", the choice", choice, () -> x.best(2));
    }

    private static void best() {
        SaltMarket x = Markets.begun(2, 0);
        dueBest("six salt", x, 106, 0, 0);
        SaltMarket y = Markets.begun(2, 10);
        dueBest("five fish", y, 105, 1, 0);
        y.place(1, 0);
        y.place(1, 0);
        dueBest("six cloth", y, 106, 2, 3);
        y.place(2, 3);
        y.pass();
        dueBest("three cloth for 6, 5 and 4", y, 109, 3, 23);
        CHECK.dueArgument("18: best(3)", y, () -> y.best(3));
        CHECK.dueArgument("18: best(-1)", y, () -> y.best(-1));
    }

    private static void bestOfSeveral() {
        // Weather 3: three salt, or four fish; one spot a place.
        SaltMarket x = Markets.begun(2, 4);
        x.set(2, 1);
        x.place(0, 0);
        x.place(1, 0);
        dueBest("the lowest place of pier and stall", x, 103, 1, 0);
        x.set(1, 2);
        dueBest("the lowest choice of 2 and 3 salt", x, 103, 3, 2);
        SaltMarket y = Markets.begun(2, 0);
        y.set(1, 5);
        y.set(2, 1);
        y.place(0, 0);
        dueBest("the lowest place of pans and pier", y, 101, 0, 0);
    }

    /** In many states the best placing is looked for by brings() alone. */
    private static void bestIsGreatestBrings() {
        for (int seed = 0; seed < 300; seed++) {
            SaltMarket x = Markets.begun(2 + seed % 3, seed);
            x.set(0, 12);
            x.set(1, seed % 6);
            x.set(2, 1 + seed / 6 % 3);
            for (int turn = 0; turn < 40; turn++) {
                int[] wanted = {-1, -1, -1};
                for (int place = 0; place <= 5; place++) {
                    for (int choice = 0; choice <= 23; choice++) {
                        if (Model.isChoice(place, choice) && x.brings(place, choice) > wanted[0]) {
                            wanted = new int[] {x.brings(place, choice), place, choice};
                        }
                    }
                }
                dueBest("seed " + seed + ", turn " + turn, x, wanted[0], wanted[1], wanted[2]);
                takeAnyTurn(x, seed * 31 + turn * 7);
            }
        }
    }

    private static void takeAnyTurn(SaltMarket x, int any) {
        for (int i = 0; i < 6; i++) {
            int place = (any + i) % 6;
            int choice = place == 2 ? 1 : place == 3 ? any % 3 * 10 + 1 : 0;
            if (x.brings(place, choice) > 0) {
                x.place(place, choice);
                return;
            }
        }
        x.pass();
    }

    private static void noneIsBest() {
        SaltMarket none = new SaltMarket();
        dueBest("no game", none, -1, -1, -1);
        CHECK.dueArgument("18: best(3) without a game", none, () -> none.best(3));
        SaltMarket x = Markets.begun(2, 0);
        x.set(2, 1);
        x.place(4, 0);
        x.place(0, 0);
        x.place(1, 0);
        x.place(3, 1);
        // The player 0 has no coin, a fish, and workers at the hall and the pier.
        dueBest("no placing is possible", x, -1, -1, -1);
        CHECK.due("13: play() passes then", -1, () -> x.play());
        x.set(0, 1);
        x.pass();
        dueBest("it is over", x, -1, -1, -1);
    }

    private static void dueLoss(String name, SaltMarket x, int p, int salt, int fish, int cloth) {
        CHECK.due("19: " + name + ", salt", salt, () -> x.loses(p, 0));
        CHECK.due("19: " + name + ", fish", fish, () -> x.loses(p, 1));
        CHECK.due("19: " + name + ", cloth", cloth, () -> x.loses(p, 2));
    }

    private static void loses() {
        SaltMarket none = new SaltMarket();
        CHECK.dueIndex("19: loses(0, 0) without a game", none, () -> none.loses(0, 0));
        // Weather 6, then 1 with rain.
        SaltMarket x = Markets.begun(2, 0);
        dueLoss("nothing", x, 0, 0, 0, 0);
        x.place(0, 0);
        x.place(0, 0);
        x.place(1, 0);
        dueLoss("a fish too many", x, 0, 0, 1, 0);
        dueLoss("six salt", x, 1, 0, 0, 0);
        x.place(0, 0);
        dueLoss("twelve salt", x, 1, 6, 0, 0);
        Markets.pass(x, 2);
        dueLoss("rain on six salt", x, 0, 3, 0, 0);
        x.place(1, 0);
        x.place(0, 0);
        dueLoss("rain on one of seven", x, 0, 4, 0, 0);
        dueLoss("six fish too many, and rain on six salt", x, 1, 3, 6, 0);
        x.place(2, 3);
        x.place(3, 1);
        dueLoss("three fish and six salt too many, no salt for the rain", x, 1, 6, 3, 0);
        dueLoss("rain on six of six", x, 0, 3, 0, 0);
        CHECK.dueIndex("19: loses(2, 0)", x, () -> x.loses(2, 0));
        CHECK.dueIndex("19: loses(-1, 3)", x, () -> x.loses(-1, 3));
        CHECK.dueArgument("19: loses(0, 3)", x, () -> x.loses(0, 3));
        CHECK.dueArgument("19: loses(1, -1)", x, () -> x.loses(1, -1));
        x.set(0, 1);
        dueLoss("it is over", x, 1, 0, 0, 0);
        CHECK.dueArgument("19: loses(0, 3) when it is over", x, () -> x.loses(0, 3));
        SaltMarket cloth = Markets.begun(2, 10);
        cloth.place(1, 0);
        cloth.place(0, 0);
        cloth.place(2, 3);
        cloth.place(0, 0);
        dueLoss("two fish of six cloth and two fish", cloth, 0, 0, 2, 0);
        cloth.place(2, 2);
        dueLoss("ten cloth", cloth, 0, 0, 0, 4);
    }

    private static void goesOn() {
        SaltMarket none = new SaltMarket();
        for (int what = 0; what <= 4; what++) {
            int k = what;
            CHECK.due("20: goesOn(" + what + ") without a game", -1, () -> none.goesOn(k));
        }
        CHECK.dueArgument("20: goesOn(5)", none, () -> none.goesOn(5));
        CHECK.dueArgument("20: goesOn(-1)", none, () -> none.goesOn(-1));
        for (int seed = 0; seed < 12; seed++) {
            SaltMarket x = Markets.begun(2 + seed % 3, seed);
            x.set(0, 1 + seed);
            x.play();
            x.set(1, seed % 6);
            x.set(2, 1 + seed % 2);
            String before = View.of(x);
            int[] told = {x.goesOn(0), x.goesOn(1), x.goesOn(2), x.goesOn(3), x.goesOn(4)};
            CHECK.same("20: nothing changes", before, View.of(x));
            while (x.about(4) == 0) {
                x.play();
            }
            dueEnd(x, told);
            for (int what = 0; what <= 4; what++) {
                int k = what;
                CHECK.due("20: goesOn(" + what + ") behind the end", told[what], () -> x.goesOn(k));
            }
        }
        SaltMarket even = Markets.begun(3, 0);
        even.set(0, 1);
        Markets.pass(even, 3);
        CHECK.due("20: of three alike the lowest", 0, () -> even.goesOn(4));
        CHECK.due("20: the total of the last one", 14, () -> even.goesOn(2));
        CHECK.due("20: no fourth player", -1, () -> even.goesOn(3));
        SaltMarket one = Markets.begun(2, 0);
        one.set(0, 1);
        one.pass();
        one.place(0, 0);
        one.pass();
        CHECK.due("20: the player 1 has more", 1, () -> one.goesOn(4));
    }

    private static void dueEnd(SaltMarket x, int[] told) {
        int leader = 0;
        for (int p = 0; p < 4; p++) {
            int q = p;
            CHECK.due("20: goesOn(" + p + ")", told[p], () -> q < x.about(0) ? x.player(q, 8) : -1);
            if (told[p] > told[leader]) {
                leader = p;
            }
        }
        CHECK.same("20: the greatest total", "" + leader, "" + told[4]);
    }

    private static void weather() {
        SaltMarket none = new SaltMarket();
        CHECK.due("21: weather(1) without a game", -1, () -> none.weather(1));
        CHECK.dueArgument("21: weather(0) without a game", none, () -> none.weather(0));
        SaltMarket x = Markets.begun(2, 0);
        int[] wanted = {6, 1, 2, 5, 6, 6, 3, 6, 1, 4, 2, 1, 1};
        CHECK.due("21: the weather of now", wanted[0], () -> x.about(2));
        for (int n = 1; n <= 12; n++) {
            int k = n;
            CHECK.due("21: weather(" + n + ")", wanted[n], () -> x.weather(k));
        }
        CHECK.dueArgument("21: weather(0)", x, () -> x.weather(0));
        CHECK.dueArgument("21: weather(13)", x, () -> x.weather(13));
        CHECK.dueArgument("21: weather(-1)", x, () -> x.weather(-1));
        x.set(0, 2);
        Markets.pass(x, 2);
        CHECK.due("21: the next weather", wanted[1], () -> x.about(2));
        CHECK.due("21: weather(1) a round later", wanted[2], () -> x.weather(1));
        Markets.pass(x, 2);
        CHECK.due("21: weather(1) when it is over", wanted[3], () -> x.weather(1));
    }
}
