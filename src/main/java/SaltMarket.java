/**
 * A salt market at which two to four players place workers.
 *
 * Everything that a call needs is made by the constructor, so that no call makes an object.
 */
public final class SaltMarket {
    public static final int NONE = -1;

    private static final int MOST_PLAYERS = 4;

    private static final int PLACES = 6;
    private static final int PANS = 0;
    private static final int PIER = 1;
    private static final int LOOM = 2;
    private static final int STALL = 3;
    private static final int HALL = 4;
    private static final int STORE = 5;

    private static final int GOODS = 3;
    private static final int SALT = 0;
    private static final int FISH = 1;
    private static final int CLOTH = 2;
    private static final int GREATEST_AMOUNT = 3;
    private static final int[] LOSING_ORDER = {1, 0, 2};

    private static final int SETTINGS = 3;
    private static final int ROUNDS = 0;
    private static final int TOLL = 1;
    private static final int SPOTS = 2;
    private static final int[] LEAST_SETTING = {1, 0, 1};
    private static final int[] FIRST_SETTING = {6, 1, 2};
    private static final int[] GREATEST_SETTING = {12, 5, 3};

    // Every placing that there is, in the order in which the best one is looked for.
    private static final int[] PLACING_PLACES = {0, 1, 2, 2, 2, 3, 3, 3, 3, 3, 3, 3, 3, 3, 4, 5};
    private static final int[] PLACING_CHOICES = {0, 0, 1, 2, 3, 1, 2, 3, 11, 12, 13, 21, 22, 23, 0, 0};

    private static final int[] FIRST_PRICE = {3, 3, 6};
    private static final int LOWEST_PRICE = 1;
    private static final int HIGHEST_PRICE = 9;

    private static final int RAIN = 1;
    private static final int EVEN = 100;
    private static final int MOST_THROWS = 12;
    private static final int MOST_TURNS = 80;
    private static final int MOST_COMMANDS = 3;
    private static final int SLOTS = 2;

    // A game has at most 12 rounds of at most 24 turns; this only makes the end of a loop plain.
    private static final int MORE_THAN_ANY_GAME = 1000000;

    private final Text text = new Text();
    private final Game now = new Game();
    private final Game trial = new Game();
    private final History history = new History();
    private final Game[] slots = new Game[SLOTS];
    private final boolean[] filled = new boolean[SLOTS];

    public SaltMarket() {
        for (int i = 0; i < SLOTS; i++) {
            slots[i] = new Game();
        }
    }

    // ---- text

    public int append(int c) throws IllegalArgumentException, IllegalStateException {
        if (c < 0 || c > 255) {
            throw new IllegalArgumentException("a character code is 0 to 255");
        }
        if (!text.add((char) c)) {
            throw new IllegalStateException("the text is full");
        }
        return text.length;
    }

    public int clearText() {
        int before = text.length;
        text.length = 0;
        return before;
    }

    public int errorPosition() {
        return text.findFault();
    }

    public int load() throws IllegalStateException {
        if (text.findFault() != NONE) {
            throw new IllegalStateException("the text is not a game");
        }
        now.clearAll();
        history.forget();
        for (int i = 0; i < SLOTS; i++) {
            filled[i] = false;
        }
        now.startGame(text.players(), text.seed());
        return doMoves();
    }

    /** Does the moves of the text, and answers how many are left out. */
    private int doMoves() {
        int left = 0;
        int at = Text.HEAD;
        for (int i = 0; i < Text.LIMIT && at < text.length; i++) {
            if (!doMove(at)) {
                left++;
            }
            at += text.moveLength(at);
        }
        return left;
    }

    private boolean doMove(int at) {
        int place = text.movePlace(at);
        return place == NONE ? now.passTurn() : now.putWorker(place, text.moveChoice(at));
    }

    // ---- what there is

    public int about(int what) throws IllegalArgumentException {
        if (what < 0 || what > 11) {
            throw new IllegalArgumentException("what is 0 to 11");
        }
        return now.number(what);
    }

    public int player(int p, int what) throws IndexOutOfBoundsException, IllegalArgumentException {
        if (!now.hasPlayer(p)) {
            throw new IndexOutOfBoundsException("there is no such player");
        }
        if (what < 0 || what > 8) {
            throw new IllegalArgumentException("what is 0 to 8");
        }
        return now.players[p].number(what);
    }

    public int worker(int place, int k) throws IndexOutOfBoundsException, IllegalArgumentException {
        if (!isPlace(place)) {
            throw new IndexOutOfBoundsException("there is no such place");
        }
        if (k < 0) {
            throw new IllegalArgumentException("k is 0 or more");
        }
        return now.places[place].ownerAt(k);
    }

    public int setting(int what) throws IllegalArgumentException {
        if (!isSetting(what)) {
            throw new IllegalArgumentException("what is 0 to 2");
        }
        return now.settings[what];
    }

    // ---- actions

    public int begin(int players, long seed) throws IllegalArgumentException {
        if (players < 2 || players > MOST_PLAYERS) {
            throw new IllegalArgumentException("players are 2 to 4");
        }
        history.remember(now);
        now.startGame(players, seed);
        return now.weather;
    }

    public int place(int place, int choice)
            throws IndexOutOfBoundsException, IllegalArgumentException, IllegalStateException {
        if (!isPlace(place)) {
            throw new IndexOutOfBoundsException("there is no such place");
        }
        if (!isChoice(place, choice)) {
            throw new IllegalArgumentException("the place has no such choice");
        }
        if (!now.tryPlacing(place, choice)) {
            throw new IllegalStateException("the placing is not possible");
        }
        int bumped = now.findBumped(place);
        history.remember(now);
        now.putWorker(place, choice);
        return bumped;
    }

    public int pass() throws IllegalStateException {
        if (!now.hasTurn()) {
            throw new IllegalStateException("there is no turn");
        }
        history.remember(now);
        now.passTurn();
        return now.whoseTurn();
    }

    public int play() throws IllegalStateException {
        if (!now.hasTurn()) {
            throw new IllegalStateException("there is no turn");
        }
        history.remember(now);
        return now.playTurn();
    }

    public int set(int what, int v) throws IllegalArgumentException {
        if (!isSettingValue(what, v)) {
            throw new IllegalArgumentException("there is no such setting or value");
        }
        history.remember(now);
        int before = now.settings[what];
        now.settings[what] = v;
        return before;
    }

    public int undo() throws IllegalStateException {
        if (history.count == 0) {
            throw new IllegalStateException("no state is remembered");
        }
        history.takeBack(now);
        return history.count;
    }

    // ---- what would be

    public int brings(int place, int choice) throws IndexOutOfBoundsException, IllegalArgumentException {
        if (!isPlace(place)) {
            throw new IndexOutOfBoundsException("there is no such place");
        }
        if (!isChoice(place, choice)) {
            throw new IllegalArgumentException("the place has no such choice");
        }
        return now.worth(place, choice);
    }

    public int bumps(int place) throws IndexOutOfBoundsException {
        if (!isPlace(place)) {
            throw new IndexOutOfBoundsException("there is no such place");
        }
        return now.hasTurn() ? now.findBumped(place) : NONE;
    }

    public int best(int what) throws IllegalArgumentException {
        if (what < 0 || what > 2) {
            throw new IllegalArgumentException("what is 0 to 2");
        }
        if (!now.findBest()) {
            return NONE;
        }
        switch (what) {
            case 0: return now.bestWorth;
            case 1: return now.bestPlace;
            default: return now.bestChoice;
        }
    }

    public int loses(int p, int what) throws IndexOutOfBoundsException, IllegalArgumentException {
        if (!now.hasPlayer(p)) {
            throw new IndexOutOfBoundsException("there is no such player");
        }
        if (!isGood(what)) {
            throw new IllegalArgumentException("what is 0 to 2");
        }
        return now.hasTurn() ? now.lossOf(p, what) : 0;
    }

    public int goesOn(int what) throws IllegalArgumentException {
        if (what < 0 || what > MOST_PLAYERS) {
            throw new IllegalArgumentException("what is 0 to 4");
        }
        trial.copyFrom(now);
        trial.playToEnd();
        if (what == MOST_PLAYERS) {
            return trial.findLeader();
        }
        return trial.hasPlayer(what) ? trial.players[what].total() : NONE;
    }

    public int weather(int n) throws IllegalArgumentException {
        if (n < 1 || n > MOST_THROWS) {
            throw new IllegalArgumentException("n is 1 to 12");
        }
        if (now.count == 0) {
            return NONE;
        }
        long x = now.x;
        for (int i = 0; i < n; i++) {
            x = nextX(x);
        }
        return weatherOf(x);
    }

    // ---- scripts, simulations

    public int runScript(int n, long script) throws IllegalArgumentException {
        if (n < 1 || n > MOST_COMMANDS) {
            throw new IllegalArgumentException("n is 1 to 3");
        }
        if (script < 0 || dropGroups(script, n) != 0) {
            throw new IllegalArgumentException("a script has at most 4 * n digits");
        }
        trial.copyFrom(now);
        for (int i = 0; i < n; i++) {
            int group = (int) (dropGroups(script, n - 1 - i) % 10000);
            if (!doCommand(group)) {
                return i;
            }
        }
        return NONE;
    }

    /** The script without its last groups. */
    private static long dropGroups(long script, int groups) {
        long rest = script;
        for (int i = 0; i < groups; i++) {
            rest /= 10000;
        }
        return rest;
    }

    /** Runs a command on the copy, and answers whether it succeeds. */
    private boolean doCommand(int group) {
        int d2 = group / 100 % 10;
        int d3 = group / 10 % 10;
        int d4 = group % 10;
        int pair = group % 100;
        switch (group / 1000) {
            case 1: return isPlace(d2) && isChoice(d2, pair) && trial.putWorker(d2, pair);
            case 2: return group == 2000 && trial.passTurn();
            case 3:
                if (group != 3000 || !trial.hasTurn()) {
                    return false;
                }
                trial.playTurn();
                return true;
            case 4: return trialSets(d2, pair);
            case 5: return trial.hasPlayer(d2) && trial.players[d2].total() >= pair;
            case 6: return isPlace(d2) && d4 == 0 && trial.places[d2].count >= d3;
            case 7: return trial.count > 0 && isGood(d2) && d4 == 0 && trial.prices[d2] >= d3;
            case 8: return pair == d4 && d2 == 0 && trial.hasTurn() && trial.turn == d4;
            case 9: return trial.hasPlayer(d2) && isGood(d3) && trial.players[d2].goods[d3] >= d4;
            default: return false;
        }
    }

    private boolean trialSets(int what, int v) {
        if (!isSettingValue(what, v)) {
            return false;
        }
        trial.settings[what] = v;
        return true;
    }

    public int simulate(long seed, int m) throws IllegalArgumentException {
        if (m < 1 || m > MOST_TURNS) {
            throw new IllegalArgumentException("m is 1 to 80");
        }
        if (now.count == 0) {
            return 0;
        }
        trial.copyFrom(now);
        long y = seed;
        for (int i = 0; i < m && trial.hasTurn(); i++) {
            y = nextX(y);
            simulateTurn((int) (y >>> 33));
        }
        return 1000 * (trial.bumpings - now.bumpings) + trial.sumOfTotals();
    }

    private void simulateTurn(int r) {
        if (r % 8 == 7) {
            trial.passTurn();
            return;
        }
        int place = r / 8 % PLACES;
        if (!trial.putWorker(place, simulatedChoice(place, r))) {
            trial.playTurn();
        }
    }

    private static int simulatedChoice(int place, int r) {
        switch (place) {
            case LOOM: return 1 + r / 64 % 3;
            case STALL: return 10 * (r / 64 % 3) + 1 + r / 256 % 3;
            default: return 0;
        }
    }

    // ---- save slots

    public int save(int slot) throws IndexOutOfBoundsException {
        if (slot < 0 || slot >= SLOTS) {
            throw new IndexOutOfBoundsException("there is no such save slot");
        }
        slots[slot].copyFrom(now);
        filled[slot] = true;
        return now.count;
    }

    public int restore(int slot) throws IndexOutOfBoundsException, IllegalStateException {
        if (slot < 0 || slot >= SLOTS) {
            throw new IndexOutOfBoundsException("there is no such save slot");
        }
        if (!filled[slot]) {
            throw new IllegalStateException("nothing has been saved in this slot");
        }
        now.copyFrom(slots[slot]);
        history.forget();
        return now.count;
    }

    // ---- what the arguments may be, and the generator

    private static boolean isPlace(int place) {
        return place >= 0 && place < PLACES;
    }

    private static boolean isGood(int good) {
        return good >= 0 && good < GOODS;
    }

    private static boolean isAmount(int amount) {
        return amount >= 1 && amount <= GREATEST_AMOUNT;
    }

    private static boolean isSetting(int what) {
        return what >= 0 && what < SETTINGS;
    }

    private static boolean isSettingValue(int what, int v) {
        return isSetting(what) && v >= LEAST_SETTING[what] && v <= GREATEST_SETTING[what];
    }

    private static boolean isChoice(int place, int choice) {
        switch (place) {
            case LOOM: return isAmount(choice);
            case STALL: return isGood(choice / 10) && isAmount(choice % 10);
            default: return choice == 0;
        }
    }

    private static long nextX(long x) {
        return x * 6364136223846793005L + 1442695040888963407L;
    }

    private static int weatherOf(long x) {
        return 1 + (int) (x >>> 33) % 6;
    }

    /** The text buffer, and how a game is written in it. */
    private static final class Text {
        static final int LIMIT = 120;
        static final int HEAD = 4;

        final char[] signs = new char[LIMIT];
        int length = 0;

        /** Answers false, and adds nothing, if the text is full. */
        boolean add(char sign) {
            if (length >= LIMIT) {
                return false;
            }
            signs[length] = sign;
            length++;
            return true;
        }

        /** The sign at a place of the text; 0, which no game holds, behind its end. */
        char signAt(int at) {
            return at >= 0 && at < length ? signs[at] : 0;
        }

        boolean isBetween(int at, char low, char high) {
            return signAt(at) >= low && signAt(at) <= high;
        }

        int digitAt(int at) {
            return signAt(at) - '0';
        }

        int findFault() {
            if (!isBetween(0, 'S', 'S')) {
                return 0;
            }
            if (!isBetween(1, '2', '4')) {
                return 1;
            }
            for (int at = 2; at < HEAD; at++) {
                if (!isBetween(at, '0', '9')) {
                    return at;
                }
            }
            int at = HEAD;
            for (int i = 0; i < LIMIT && at < length; i++) {
                int fault = findMoveFault(at);
                if (fault != NONE) {
                    return fault;
                }
                at += moveLength(at);
            }
            return NONE;
        }

        int findMoveFault(int at) {
            switch (signAt(at)) {
                case 'p':
                case 'n':
                case 'h':
                case 'r':
                case '-':
                    return NONE;
                case 'l':
                    return isBetween(at + 1, '1', '3') ? NONE : at + 1;
                case 'm':
                    if (!isBetween(at + 1, '0', '2')) {
                        return at + 1;
                    }
                    return isBetween(at + 2, '1', '3') ? NONE : at + 2;
                default:
                    return at;
            }
        }

        int players() {
            return digitAt(1);
        }

        int seed() {
            return 10 * digitAt(2) + digitAt(3);
        }

        int moveLength(int at) {
            switch (signAt(at)) {
                case 'l': return 2;
                case 'm': return 3;
                default: return 1;
            }
        }

        /** The place of a move; NONE for passing. */
        int movePlace(int at) {
            switch (signAt(at)) {
                case 'p': return PANS;
                case 'n': return PIER;
                case 'l': return LOOM;
                case 'm': return STALL;
                case 'h': return HALL;
                case 'r': return STORE;
                default: return NONE;
            }
        }

        int moveChoice(int at) {
            switch (signAt(at)) {
                case 'l': return digitAt(at + 1);
                case 'm': return 10 * digitAt(at + 1) + digitAt(at + 2);
                default: return 0;
            }
        }
    }

    /** What a player has. */
    private static final class Player {
        final int[] goods = new int[GOODS];
        int coins = 0;
        int room = 0;
        int workers = 0;
        int hand = 0;
        boolean passed = false;

        void clear() {
            for (int good = 0; good < GOODS; good++) {
                goods[good] = 0;
            }
            coins = 5;
            room = 6;
            workers = 3;
            startRound();
        }

        void startRound() {
            hand = workers;
            passed = false;
        }

        void copyFrom(Player other) {
            for (int good = 0; good < GOODS; good++) {
                goods[good] = other.goods[good];
            }
            coins = other.coins;
            room = other.room;
            workers = other.workers;
            hand = other.hand;
            passed = other.passed;
        }

        int number(int what) {
            switch (what) {
                case 0: return coins;
                case 1: return goods[SALT];
                case 2: return goods[FISH];
                case 3: return goods[CLOTH];
                case 4: return room;
                case 5: return workers;
                case 6: return hand;
                case 7: return passed ? 1 : 0;
                default: return total();
            }
        }

        int total() {
            return coins + goods[SALT] + goods[FISH] + 2 * goods[CLOTH] + 3 * workers;
        }

        boolean isReady() {
            return hand > 0 && !passed;
        }

        /** Takes coins; answers false, and takes none, if there are fewer. */
        boolean pay(int price) {
            if (coins < price) {
                return false;
            }
            coins -= price;
            return true;
        }

        boolean give(int good, int amount) {
            if (goods[good] < amount) {
                return false;
            }
            goods[good] -= amount;
            return true;
        }

        void gain(int good, int amount) {
            goods[good] += amount;
        }

        boolean weave(int amount) {
            if (!give(FISH, amount) || !pay(amount)) {
                return false;
            }
            gain(CLOTH, 2 * amount);
            return true;
        }

        /** Sells one after the other, each for its price, which falls by each. */
        boolean sell(int good, int amount, int price) {
            if (!give(good, amount)) {
                return false;
            }
            for (int i = 0; i < amount; i++) {
                coins += Math.max(LOWEST_PRICE, price - i);
            }
            return true;
        }

        boolean hire() {
            if (workers >= 5 || !pay(5)) {
                return false;
            }
            workers++;
            hand++;
            return true;
        }

        boolean buildRoom() {
            if (room >= 30 || !pay(2)) {
                return false;
            }
            room += 3;
            return true;
        }

        /** Loses what has no room, and then what the rain takes; answers how many goods that are. */
        int loseGoods(int weather) {
            int lost = 0;
            for (int good : LOSING_ORDER) {
                int over = goods[SALT] + goods[FISH] + goods[CLOTH] - room;
                int gone = over < goods[good] ? over : goods[good];
                if (gone > 0) {
                    goods[good] -= gone;
                    lost += gone;
                }
            }
            if (weather == RAIN) {
                int gone = (goods[SALT] + 1) / 2;
                goods[SALT] -= gone;
                lost += gone;
            }
            return lost;
        }
    }

    /** The workers at a place, by their owners, the first one first. */
    private static final class Place {
        static final int LIMIT = 3;

        final int[] owners = new int[LIMIT];
        int count = 0;

        void copyFrom(Place other) {
            for (int k = 0; k < LIMIT; k++) {
                owners[k] = other.owners[k];
            }
            count = other.count;
        }

        int ownerAt(int k) {
            return k >= 0 && k < count && k < LIMIT ? owners[k] : NONE;
        }

        /** Which one is the first that belongs to another player; NONE if there is none. */
        int findOther(int p) {
            for (int k = 0; k < count && k < LIMIT; k++) {
                if (owners[k] != p) {
                    return k;
                }
            }
            return NONE;
        }

        void add(int p) {
            if (count < LIMIT) {
                owners[count] = p;
                count++;
            }
        }

        void remove(int k) {
            if (k < 0 || k >= count) {
                return;
            }
            for (int i = k; i + 1 < count && i + 1 < LIMIT; i++) {
                owners[i] = owners[i + 1];
            }
            count--;
        }
    }

    /** The state: a game (without one, the count of players is 0) and the settings. */
    private static final class Game {
        final Player[] players = new Player[MOST_PLAYERS];
        final Place[] places = new Place[PLACES];
        final int[] prices = new int[GOODS];
        final int[] settings = new int[SETTINGS];
        int count = 0;
        int turn = 0;
        int first = 0;
        int weather = 0;
        int ended = 0;
        int bumpings = 0;
        int lost = 0;
        long x = 0;

        // The rest is no part of the state: what a player would be, and the answers of findBest.
        final Player after = new Player();
        int bestWorth = NONE;
        int bestPlace = NONE;
        int bestChoice = NONE;

        Game() {
            for (int p = 0; p < MOST_PLAYERS; p++) {
                players[p] = new Player();
            }
            for (int place = 0; place < PLACES; place++) {
                places[place] = new Place();
            }
            for (int what = 0; what < SETTINGS; what++) {
                settings[what] = FIRST_SETTING[what];
            }
        }

        /** Makes it a new one: no game, and the first settings. */
        void clearAll() {
            for (int what = 0; what < SETTINGS; what++) {
                settings[what] = FIRST_SETTING[what];
            }
            count = 0;
        }

        void startGame(int newCount, long seed) {
            count = newCount;
            turn = 0;
            first = 0;
            ended = 0;
            bumpings = 0;
            lost = 0;
            for (int p = 0; p < MOST_PLAYERS; p++) {
                players[p].clear();
            }
            for (int place = 0; place < PLACES; place++) {
                places[place].count = 0;
            }
            for (int good = 0; good < GOODS; good++) {
                prices[good] = FIRST_PRICE[good];
            }
            x = nextX(seed);
            weather = weatherOf(x);
        }

        void copyFrom(Game other) {
            for (int p = 0; p < MOST_PLAYERS; p++) {
                players[p].copyFrom(other.players[p]);
            }
            for (int place = 0; place < PLACES; place++) {
                places[place].copyFrom(other.places[place]);
            }
            for (int good = 0; good < GOODS; good++) {
                prices[good] = other.prices[good];
            }
            for (int what = 0; what < SETTINGS; what++) {
                settings[what] = other.settings[what];
            }
            count = other.count;
            turn = other.turn;
            first = other.first;
            weather = other.weather;
            ended = other.ended;
            bumpings = other.bumpings;
            lost = other.lost;
            x = other.x;
        }

        boolean hasPlayer(int p) {
            return p >= 0 && p < count;
        }

        /** Whether there is a game that is not over. */
        boolean hasTurn() {
            return count > 0 && ended < settings[ROUNDS];
        }

        int whoseTurn() {
            return hasTurn() ? turn : NONE;
        }

        int number(int what) {
            if (count == 0) {
                return 0;
            }
            switch (what) {
                case 0: return count;
                case 1: return whoseTurn();
                case 2: return weather;
                case 3: return ended;
                case 4: return hasTurn() ? 0 : 1;
                case 5: return prices[SALT];
                case 6: return prices[FISH];
                case 7: return prices[CLOTH];
                case 8: return first;
                case 9: return countPlaced();
                case 10: return bumpings;
                default: return lost;
            }
        }

        int countPlaced() {
            int placed = 0;
            for (int place = 0; place < PLACES; place++) {
                placed += places[place].count;
            }
            return placed;
        }

        int sumOfTotals() {
            int sum = 0;
            for (int p = 0; p < count && p < MOST_PLAYERS; p++) {
                sum += players[p].total();
            }
            return sum;
        }

        /** The player with the greatest total, of several the lowest; NONE without a game. */
        int findLeader() {
            int leader = NONE;
            int greatest = 0;
            for (int p = 0; p < count && p < MOST_PLAYERS; p++) {
                int total = players[p].total();
                if (leader == NONE || total > greatest) {
                    leader = p;
                    greatest = total;
                }
            }
            return leader;
        }

        // ---- placing

        /** Whose worker a placing would bump; NONE if there is a free spot, or no other one's worker. */
        int findBumped(int place) {
            Place there = places[place];
            return there.count < settings[SPOTS] ? NONE : there.ownerAt(there.findOther(turn));
        }

        /**
         * Makes `after` what the player would be behind a placing; answers false if it is not possible.
         * Nothing else changes, the prices neither.
         */
        boolean tryPlacing(int place, int choice) {
            if (!hasTurn()) {
                return false;
            }
            after.copyFrom(players[turn]);
            after.hand--;
            boolean full = places[place].count >= settings[SPOTS];
            if (full && (findBumped(place) == NONE || !after.pay(settings[TOLL]))) {
                return false;
            }
            switch (place) {
                case PANS:
                    after.gain(SALT, weather);
                    return true;
                case PIER:
                    after.gain(FISH, 7 - weather);
                    return true;
                case LOOM:
                    return after.weave(choice);
                case STALL:
                    return after.sell(choice / 10, choice % 10, prices[choice / 10]);
                case HALL:
                    return after.hire();
                default:
                    return after.buildRoom();
            }
        }

        /** Places a worker; answers false, and changes nothing, if it is not possible. */
        boolean putWorker(int place, int choice) {
            if (!tryPlacing(place, choice)) {
                return false;
            }
            int bumped = findBumped(place);
            if (bumped != NONE) {
                players[bumped].coins += settings[TOLL];
                places[place].remove(places[place].findOther(turn));
                bumpings++;
            }
            places[place].add(turn);
            players[turn].copyFrom(after);
            if (place == STALL) {
                int good = choice / 10;
                prices[good] = Math.max(LOWEST_PRICE, prices[good] - choice % 10);
            }
            endTurn();
            return true;
        }

        /** What a placing would bring; NONE if it is not possible. */
        int worth(int place, int choice) {
            return tryPlacing(place, choice) ? worthOfTried() : NONE;
        }

        int worthOfTried() {
            return EVEN + after.total() - players[turn].total();
        }

        /** Finds the best placing; answers false if none is possible. */
        boolean findBest() {
            bestWorth = NONE;
            for (int i = 0; i < PLACING_PLACES.length && i < PLACING_CHOICES.length; i++) {
                if (tryPlacing(PLACING_PLACES[i], PLACING_CHOICES[i]) && worthOfTried() > bestWorth) {
                    bestWorth = worthOfTried();
                    bestPlace = PLACING_PLACES[i];
                    bestChoice = PLACING_CHOICES[i];
                }
            }
            return bestWorth != NONE;
        }

        // ---- turns and rounds

        /** Passes; answers false, and changes nothing, if there is no turn. */
        boolean passTurn() {
            if (!hasTurn()) {
                return false;
            }
            players[turn].passed = true;
            endTurn();
            return true;
        }

        /** Makes the best placing, and answers what it brings, or passes, and answers NONE. */
        int playTurn() {
            if (findBest() && bestWorth > EVEN) {
                putWorker(bestPlace, bestChoice);
                return bestWorth;
            }
            passTurn();
            return NONE;
        }

        void playToEnd() {
            for (int i = 0; i < MORE_THAN_ANY_GAME && hasTurn(); i++) {
                playTurn();
            }
        }

        /** How many of a good the end of this round would take from a player. */
        int lossOf(int p, int good) {
            after.copyFrom(players[p]);
            after.loseGoods(weather);
            return players[p].goods[good] - after.goods[good];
        }

        int playerBehind(int p) {
            return p + 1 < count ? p + 1 : 0;
        }

        void endTurn() {
            int next = turn;
            for (int i = 0; i < count; i++) {
                next = playerBehind(next);
                if (players[next].isReady()) {
                    turn = next;
                    return;
                }
            }
            endRound();
        }

        void endRound() {
            for (int p = 0; p < count && p < MOST_PLAYERS; p++) {
                lost += players[p].loseGoods(weather);
                players[p].startRound();
            }
            for (int place = 0; place < PLACES; place++) {
                places[place].count = 0;
            }
            for (int good = 0; good < GOODS; good++) {
                prices[good] = Math.min(HIGHEST_PRICE, prices[good] + 1);
            }
            x = nextX(x);
            weather = weatherOf(x);
            ended++;
            first = playerBehind(first);
            turn = first;
        }
    }

    /** The remembered states, as a ring: when it is full, the oldest one is written over. */
    private static final class History {
        static final int LIMIT = 14;

        final Game[] states = new Game[LIMIT];
        int count = 0;
        int next = 0;

        History() {
            for (int i = 0; i < LIMIT; i++) {
                states[i] = new Game();
            }
        }

        void forget() {
            count = 0;
        }

        void remember(Game game) {
            states[next].copyFrom(game);
            next = next + 1 < LIMIT ? next + 1 : 0;
            if (count < LIMIT) {
                count++;
            }
        }

        /** Makes a game the state that was remembered last, if there is one. */
        void takeBack(Game game) {
            if (count == 0) {
                return;
            }
            next = next > 0 ? next - 1 : LIMIT - 1;
            count--;
            game.copyFrom(states[next]);
        }
    }
}
