import java.util.ArrayDeque;
import java.util.ArrayList;
import java.util.Deque;
import java.util.List;

/**
 * The document once more, written in another way, to compare the class with: each state is a new
 * copy, what would be is found by doing it on a copy, and whatever is impossible is thrown.
 */
final class Model {
    static final int NONE = -1;

    /** A state. */
    static final class World {
        int players = 0;
        int turn;
        int first;
        int die;
        int ended;
        int bumped;
        int lost;
        long x;
        List<Integer> prices = new ArrayList<>();
        List<Integer> settings = new ArrayList<>(List.of(6, 1, 2));
        List<Person> people = new ArrayList<>();
        List<List<Integer>> spots = new ArrayList<>();

        World() {
            for (int q = 0; q < 6; q++) {
                spots.add(new ArrayList<>());
            }
        }

        World copy() {
            World w = new World();
            w.players = players;
            w.turn = turn;
            w.first = first;
            w.die = die;
            w.ended = ended;
            w.bumped = bumped;
            w.lost = lost;
            w.x = x;
            w.prices = new ArrayList<>(prices);
            w.settings = new ArrayList<>(settings);
            for (Person p : people) {
                w.people.add(p.copy());
            }
            for (int q = 0; q < 6; q++) {
                w.spots.set(q, new ArrayList<>(spots.get(q)));
            }
            return w;
        }

        boolean over() {
            return ended >= settings.get(0);
        }

        void needTurn() {
            if (players == 0 || over()) {
                throw new IllegalStateException();
            }
        }

        void throwDie() {
            x = x * 6364136223846793005L + 1442695040888963407L;
            die = 1 + ((int) (x >>> 33)) % 6;
        }

        void begin(int count, long seed) {
            players = count;
            turn = 0;
            first = 0;
            ended = 0;
            bumped = 0;
            lost = 0;
            prices = new ArrayList<>(List.of(3, 3, 6));
            people = new ArrayList<>();
            for (int p = 0; p < count; p++) {
                people.add(new Person());
            }
            for (List<Integer> s : spots) {
                s.clear();
            }
            x = seed;
            throwDie();
        }

        /** Does a placing without its turn's end; may throw half done, so it is for copies. */
        int placeOnly(int q, int choice) {
            needTurn();
            Person me = people.get(turn);
            must(me.hand > 0);
            me.hand--;
            int gone = NONE;
            if (spots.get(q).size() >= settings.get(2)) {
                for (int owner : spots.get(q)) {
                    if (gone == NONE && owner != turn) {
                        gone = owner;
                    }
                }
                must(gone != NONE);
                me.pay(settings.get(1));
                people.get(gone).coins += settings.get(1);
                spots.get(q).remove((Object) gone);
                bumped++;
            }
            spots.get(q).add(turn);
            if (q == 0) {
                me.good[0] += die;
            } else if (q == 1) {
                me.good[1] += 7 - die;
            } else if (q == 2) {
                must(me.good[1] >= choice);
                me.good[1] -= choice;
                me.pay(choice);
                me.good[2] += choice + choice;
            } else if (q == 3) {
                int g = choice / 10;
                for (int i = 0; i < choice % 10; i++) {
                    must(me.good[g] > 0);
                    me.good[g]--;
                    me.coins += prices.get(g);
                    if (prices.get(g) > 1) {
                        prices.set(g, prices.get(g) - 1);
                    }
                }
            } else if (q == 4) {
                must(me.workers < 5);
                me.pay(5);
                me.workers++;
                me.hand++;
            } else {
                must(me.room + 3 <= 30);
                me.pay(2);
                me.room += 3;
            }
            return gone;
        }

        World placed(int q, int choice) {
            World w = copy();
            w.placeOnly(q, choice);
            return w;
        }

        void behind() {
            for (int step = 1; step <= players; step++) {
                int p = (turn + step) % players;
                if (people.get(p).hand > 0 && !people.get(p).passed) {
                    turn = p;
                    return;
                }
            }
            for (Person p : people) {
                for (int g : new int[] {1, 0, 2}) {
                    while (p.good[0] + p.good[1] + p.good[2] > p.room && p.good[g] > 0) {
                        p.good[g]--;
                        lost++;
                    }
                }
                if (die == 1) {
                    int kept = p.good[0] / 2;
                    lost += p.good[0] - kept;
                    p.good[0] = kept;
                }
                p.hand = p.workers;
                p.passed = false;
            }
            for (List<Integer> s : spots) {
                s.clear();
            }
            for (int g = 0; g < 3; g++) {
                if (prices.get(g) < 9) {
                    prices.set(g, prices.get(g) + 1);
                }
            }
            throwDie();
            first = (first + 1) % players;
            turn = first;
            ended++;
        }

        int brings(int q, int choice) {
            try {
                return placed(q, choice).people.get(turn).total() - people.get(turn).total() + 100;
            } catch (IllegalStateException e) {
                return NONE;
            }
        }

        int place(int q, int choice) {
            placed(q, choice);
            int gone = placeOnly(q, choice);
            behind();
            return gone;
        }

        void pass() {
            needTurn();
            people.get(turn).passed = true;
            behind();
        }

        int[] best() {
            int[] best = {NONE, NONE, NONE};
            for (int q = 0; q < 6; q++) {
                for (int choice = 0; choice < 30; choice++) {
                    if (isChoice(q, choice) && brings(q, choice) > best[0]) {
                        best = new int[] {brings(q, choice), q, choice};
                    }
                }
            }
            return best;
        }

        int play() {
            needTurn();
            int[] best = best();
            if (best[0] > 100) {
                place(best[1], best[2]);
                return best[0];
            }
            pass();
            return NONE;
        }

        boolean command(String d) {
            int a = d.charAt(1) - '0';
            int b = d.charAt(2) - '0';
            int c = d.charAt(3) - '0';
            int bc = 10 * b + c;
            switch (d.charAt(0)) {
                case '1':
                    if (a > 5 || !isChoice(a, bc)) {
                        return false;
                    }
                    return !fails(() -> place(a, bc));
                case '2':
                    return d.equals("2000") && !fails(() -> pass());
                case '3':
                    return d.equals("3000") && !fails(() -> play());
                case '4':
                    if (!isSetting(a, bc)) {
                        return false;
                    }
                    settings.set(a, bc);
                    return true;
                case '5':
                    return a < players && people.get(a).total() >= bc;
                case '6':
                    return a < 6 && c == 0 && spots.get(a).size() >= b;
                case '7':
                    return players > 0 && a < 3 && c == 0 && prices.get(a) >= b;
                case '8':
                    return a == 0 && b == 0 && players > 0 && !over() && turn == c;
                case '9':
                    return a < players && b < 3 && people.get(a).good[b] >= c;
                default:
                    return false;
            }
        }
    }

    /** A player. */
    static final class Person {
        int coins = 5;
        int[] good = new int[3];
        int room = 6;
        int workers = 3;
        int hand = 3;
        boolean passed = false;

        Person copy() {
            Person p = new Person();
            p.coins = coins;
            p.good = good.clone();
            p.room = room;
            p.workers = workers;
            p.hand = hand;
            p.passed = passed;
            return p;
        }

        int total() {
            return coins + good[0] + good[1] + 2 * good[2] + 3 * workers;
        }

        void pay(int price) {
            must(coins >= price);
            coins -= price;
        }
    }

    World now = new World();
    String text = "";
    Deque<World> remembered = new ArrayDeque<>();
    World[] slots = new World[2];

    static void must(boolean possible) {
        if (!possible) {
            throw new IllegalStateException();
        }
    }

    static void mustArgument(boolean fine) {
        if (!fine) {
            throw new IllegalArgumentException();
        }
    }

    static void mustIndex(boolean there) {
        if (!there) {
            throw new IndexOutOfBoundsException();
        }
    }

    static boolean fails(Runnable call) {
        try {
            call.run();
            return false;
        } catch (IllegalStateException e) {
            return true;
        }
    }

    static boolean isChoice(int q, int choice) {
        switch (q) {
            case 2: return List.of(1, 2, 3).contains(choice);
            case 3: return List.of(1, 2, 3, 11, 12, 13, 21, 22, 23).contains(choice);
            default: return choice == 0;
        }
    }

    static boolean isSetting(int what, int v) {
        switch (what) {
            case 0: return 1 <= v && v <= 12;
            case 1: return 0 <= v && v <= 5;
            case 2: return 1 <= v && v <= 3;
            default: return false;
        }
    }

    void remember() {
        remembered.addLast(now.copy());
        if (remembered.size() > 14) {
            remembered.removeFirst();
        }
    }

    int append(int c) {
        mustArgument(0 <= c && c <= 255);
        must(text.length() < 120);
        text += (char) c;
        return text.length();
    }

    int clearText() {
        int length = text.length();
        text = "";
        return length;
    }

    /** The longest beginning that some game has is the part ahead of the error. */
    int errorPosition() {
        String game = "S[2-4][0-9][0-9]([pnhr-]|l[1-3]|m[0-2][1-3])*";
        if (text.matches(game)) {
            return NONE;
        }
        String[] ends = {"", "200", "00", "0", "1", "01"};
        for (int length = text.length(); length > 0; length--) {
            String part = text.substring(0, length);
            for (String end : ends) {
                if ((part + end).matches(game)) {
                    return length;
                }
            }
        }
        return 0;
    }

    int load() {
        must(errorPosition() == NONE);
        now = new World();
        remembered.clear();
        slots = new World[2];
        now.begin(text.charAt(1) - '0', Integer.parseInt(text.substring(2, 4)));
        int left = 0;
        String rest = text.substring(4);
        while (!rest.isEmpty()) {
            int length = rest.startsWith("m") ? 3 : rest.startsWith("l") ? 2 : 1;
            String move = rest.substring(0, length);
            rest = rest.substring(length);
            left += fails(() -> move(move)) ? 1 : 0;
        }
        return left;
    }

    void move(String move) {
        if (move.equals("-")) {
            now.pass();
        } else {
            int choice = move.length() > 1 ? Integer.parseInt(move.substring(1)) : 0;
            now.place("pnlmhr".indexOf(move.charAt(0)), choice);
        }
    }

    int about(int what) {
        mustArgument(0 <= what && what <= 11);
        if (now.players == 0) {
            return 0;
        }
        int placed = 0;
        for (List<Integer> s : now.spots) {
            placed += s.size();
        }
        int over = now.over() ? 1 : 0;
        return new int[] {now.players, over == 1 ? NONE : now.turn, now.die, now.ended, over, now.prices.get(0),
            now.prices.get(1), now.prices.get(2), now.first, placed, now.bumped, now.lost}[what];
    }

    int player(int p, int what) {
        mustIndex(0 <= p && p < now.players);
        mustArgument(0 <= what && what <= 8);
        Person x = now.people.get(p);
        return new int[] {x.coins, x.good[0], x.good[1], x.good[2], x.room, x.workers, x.hand, x.passed ? 1 : 0,
            x.total()}[what];
    }

    int worker(int q, int k) {
        mustIndex(0 <= q && q <= 5);
        mustArgument(k >= 0);
        return k < now.spots.get(q).size() ? now.spots.get(q).get(k) : NONE;
    }

    int setting(int what) {
        mustArgument(0 <= what && what <= 2);
        return now.settings.get(what);
    }

    int begin(int players, long seed) {
        mustArgument(2 <= players && players <= 4);
        remember();
        now.begin(players, seed);
        return now.die;
    }

    int place(int q, int choice) {
        mustIndex(0 <= q && q <= 5);
        mustArgument(isChoice(q, choice));
        now.placed(q, choice);
        remember();
        return now.place(q, choice);
    }

    int pass() {
        now.needTurn();
        remember();
        now.pass();
        return about(1);
    }

    int play() {
        now.needTurn();
        remember();
        return now.play();
    }

    int set(int what, int v) {
        mustArgument(isSetting(what, v));
        remember();
        return now.settings.set(what, v);
    }

    int undo() {
        must(!remembered.isEmpty());
        now = remembered.removeLast();
        return remembered.size();
    }

    int brings(int q, int choice) {
        mustIndex(0 <= q && q <= 5);
        mustArgument(isChoice(q, choice));
        return now.brings(q, choice);
    }

    int bumps(int q) {
        mustIndex(0 <= q && q <= 5);
        if (now.players == 0 || now.over() || now.spots.get(q).size() < now.settings.get(2)) {
            return NONE;
        }
        return now.spots.get(q).stream().filter(owner -> owner != now.turn).findFirst().orElse(NONE);
    }

    int best(int what) {
        mustArgument(0 <= what && what <= 2);
        return now.best()[what];
    }

    /** Ends the round on a copy by passing, and looks at what is gone. */
    int loses(int p, int what) {
        mustIndex(0 <= p && p < now.players);
        mustArgument(0 <= what && what <= 2);
        if (now.over()) {
            return 0;
        }
        World w = now.copy();
        while (w.ended == now.ended) {
            w.pass();
        }
        return now.people.get(p).good[what] - w.people.get(p).good[what];
    }

    int goesOn(int what) {
        mustArgument(0 <= what && what <= 4);
        World w = now.copy();
        while (w.players > 0 && !w.over()) {
            w.play();
        }
        if (what < 4) {
            return what < w.players ? w.people.get(what).total() : NONE;
        }
        int best = NONE;
        for (int p = w.players - 1; p >= 0; p--) {
            if (best == NONE || w.people.get(p).total() >= w.people.get(best).total()) {
                best = p;
            }
        }
        return best;
    }

    int weather(int n) {
        mustArgument(1 <= n && n <= 12);
        if (now.players == 0) {
            return NONE;
        }
        World w = now.copy();
        for (int i = 0; i < n; i++) {
            w.throwDie();
        }
        return w.die;
    }

    int runScript(int n, long script) {
        mustArgument(1 <= n && n <= 3 && script >= 0 && Long.toString(script).length() <= 4 * n);
        String digits = String.format("%0" + 4 * n + "d", script);
        World w = now.copy();
        for (int i = 0; i < n; i++) {
            if (!w.command(digits.substring(4 * i, 4 * i + 4))) {
                return i;
            }
        }
        return NONE;
    }

    int simulate(long seed, int m) {
        mustArgument(1 <= m && m <= 80);
        World w = now.copy();
        long y = seed;
        for (int i = 0; i < m; i++) {
            if (w.players == 0 || w.over()) {
                break;
            }
            y = y * 6364136223846793005L + 1442695040888963407L;
            int r = (int) (y >>> 33);
            int q = r / 8 % 6;
            int choice = q == 2 ? 1 + r / 64 % 3 : q == 3 ? 10 * (r / 64 % 3) + 1 + r / 256 % 3 : 0;
            if (r % 8 == 7) {
                w.pass();
            } else if (w.brings(q, choice) != NONE) {
                w.place(q, choice);
            } else {
                w.play();
            }
        }
        int sum = 0;
        for (Person p : w.people) {
            sum += p.total();
        }
        return 1000 * (w.bumped - now.bumped) + sum;
    }

    int save(int slot) {
        mustIndex(slot == 0 || slot == 1);
        slots[slot] = now.copy();
        return now.players;
    }

    int restore(int slot) {
        mustIndex(slot == 0 || slot == 1);
        must(slots[slot] != null);
        now = slots[slot].copy();
        remembered.clear();
        return now.players;
    }
}
