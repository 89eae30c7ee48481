import java.util.Random;

/** Runs of calls by a seeded generator, each answered by the class and by the model alike. */
public final class ModelTest {
    private static final int RUNS = 1500;
    private static final int CALLS = 400;
    private static final int[] EDGES = {-1, -2, 6, 7, 12, 13, 24, 255, 256, 10, 20, 14, Integer.MAX_VALUE,
        Integer.MIN_VALUE, -11, 81};
    private static final long[] SCRIPT_EDGES = {-1L, 9999L, 10000L, 99999999L, 100000000L, 999999999999L,
        1000000000000L, Long.MAX_VALUE, Long.MIN_VALUE};
    private static final String[] MOVES = {"p", "n", "h", "r", "-", "l1", "l2", "l3", "m01", "m02", "m03", "m11",
        "m12", "m13", "m21", "m22", "m23", "p", "n"};
    private static final int[] SALES = {1, 2, 3, 11, 12, 13, 21, 22, 23};

    private final Check check = new Check();
    private Random random = new Random(0);
    private SaltMarket market = new SaltMarket();
    private Model model = new Model();
    private int pace = 0;
    private int run = 0;

    public static void main(String[] args) {
        ModelTest test = new ModelTest();
        for (int run = 1; run <= RUNS && !test.check.failed(); run++) {
            test.oneRun(run);
        }
        test.check.end("ModelTest");
    }

    private void oneRun(int number) {
        run = number;
        random = new Random(number);
        market = new SaltMarket();
        model = new Model();
        pace = random.nextInt(4);
        for (int i = 0; i < CALLS && !check.failed(); i++) {
            oneCall(i);
            compareStates(i);
        }
    }

    private void both(int i, String call, Check.Call market, Check.Call model) {
        check.same("run " + run + ", call " + i + ": " + call, Check.answerOf(model), Check.answerOf(market));
    }

    /** A number from 0 to below, or now and then an edge. */
    private int some(int below) {
        return random.nextInt(25) == 0 ? EDGES[random.nextInt(EDGES.length)] : random.nextInt(below);
    }

    private int someChoice(int place) {
        if (random.nextInt(20) == 0) {
            return some(25);
        }
        return place == 2 ? 1 + random.nextInt(3) : place == 3 ? SALES[random.nextInt(9)] : 0;
    }

    private void oneCall(int i) {
        int kind = random.nextInt(100);
        if (kind < 45 - 10 * pace) {
            int place = some(6);
            int choice = someChoice(place);
            both(i, "place(" + place + ", " + choice + ")", () -> market.place(place, choice),
                () -> model.place(place, choice));
        } else if (kind < 55) {
            both(i, "play()", () -> market.play(), () -> model.play());
        } else if (kind < 58) {
            both(i, "pass()", () -> market.pass(), () -> model.pass());
        } else if (kind < 63) {
            rareAction(i);
        } else if (kind < 66) {
            both(i, "undo()", () -> market.undo(), () -> model.undo());
        } else if (kind < 84) {
            query(i);
        } else if (kind < 90) {
            scriptOrSimulation(i);
        } else if (kind < 94) {
            slot(i);
        } else {
            text(i);
        }
    }

    private void rareAction(int i) {
        if (random.nextInt(3) == 0 || market.about(0) == 0) {
            int players = random.nextInt(10) == 0 ? some(6) : 2 + random.nextInt(3);
            long seed = random.nextBoolean() ? random.nextLong() : random.nextInt(100);
            both(i, "begin(" + players + ", " + seed + ")", () -> market.begin(players, seed),
                () -> model.begin(players, seed));
        } else {
            int what = some(3);
            int v = what == 0 ? 13 - random.nextInt(14) : some(7) - random.nextInt(2);
            both(i, "set(" + what + ", " + v + ")", () -> market.set(what, v), () -> model.set(what, v));
        }
    }

    private void query(int i) {
        int a = some(6);
        int b = someChoice(a);
        int c = some(13);
        switch (random.nextInt(9)) {
            case 0:
                both(i, "brings(" + a + ", " + b + ")", () -> market.brings(a, b), () -> model.brings(a, b));
                break;
            case 1:
                both(i, "bumps(" + a + ")", () -> market.bumps(a), () -> model.bumps(a));
                break;
            case 2:
                both(i, "best(" + c % 4 + ")", () -> market.best(c % 4), () -> model.best(c % 4));
                break;
            case 3:
                both(i, "loses(" + a + ", " + c % 4 + ")", () -> market.loses(a, c % 4), () -> model.loses(a, c % 4));
                break;
            case 4:
                both(i, "goesOn(" + a + ")", () -> market.goesOn(a), () -> model.goesOn(a));
                break;
            case 5:
                both(i, "weather(" + c + ")", () -> market.weather(c), () -> model.weather(c));
                break;
            case 6:
                both(i, "about(" + c + ")", () -> market.about(c), () -> model.about(c));
                break;
            case 7:
                both(i, "player(" + a + ", " + c + ")", () -> market.player(a, c), () -> model.player(a, c));
                break;
            default:
                both(i, "worker(" + a + ", " + c + ")", () -> market.worker(a, c), () -> model.worker(a, c));
                both(i, "setting(" + c + ")", () -> market.setting(c), () -> model.setting(c));
        }
    }

    private void scriptOrSimulation(int i) {
        if (random.nextInt(3) == 0) {
            long seed = random.nextLong();
            int m = random.nextInt(20) == 0 ? some(3) : 1 + random.nextInt(80);
            both(i, "simulate(" + seed + ", " + m + ")", () -> market.simulate(seed, m),
                () -> model.simulate(seed, m));
            return;
        }
        int n = random.nextInt(20) == 0 ? some(5) : 1 + random.nextInt(3);
        long script = random.nextInt(15) == 0 ? SCRIPT_EDGES[random.nextInt(SCRIPT_EDGES.length)] : someScript(n);
        both(i, "runScript(" + n + ", " + script + ")", () -> market.runScript(n, script),
            () -> model.runScript(n, script));
    }

    private long someScript(int n) {
        long script = 0;
        for (int i = 0; i < n && i < 3; i++) {
            script = 10000 * script + someCommand();
        }
        return script;
    }

    private int someCommand() {
        if (random.nextInt(10) == 0) {
            return random.nextInt(10000);
        }
        int what = random.nextInt(3);
        int place = random.nextInt(6);
        switch (1 + random.nextInt(9)) {
            case 1: return 1000 + 100 * place + (place == 2 ? 1 + what : place == 3 ? SALES[random.nextInt(9)] : 0);
            case 2: return 2000;
            case 3: return 3000;
            case 4: return 4000 + 100 * what + random.nextInt(8);
            case 5: return 5000 + 100 * random.nextInt(4) + random.nextInt(60);
            case 6: return 6000 + 100 * place + 10 * random.nextInt(4);
            case 7: return 7000 + 100 * what + 10 * random.nextInt(10);
            case 8: return 8000 + random.nextInt(4);
            default: return 9000 + 100 * random.nextInt(4) + 10 * what + random.nextInt(10);
        }
    }

    private void slot(int i) {
        int slot = some(2);
        if (random.nextInt(3) > 0) {
            both(i, "save(" + slot + ")", () -> market.save(slot), () -> model.save(slot));
        } else {
            both(i, "restore(" + slot + ")", () -> market.restore(slot), () -> model.restore(slot));
        }
    }

    private void text(int i) {
        int kind = random.nextInt(12);
        if (kind == 0) {
            both(i, "clearText()", () -> market.clearText(), () -> model.clearText());
            put(i, "S" + (2 + random.nextInt(3)) + random.nextInt(10) + random.nextInt(10));
        } else if (kind == 1) {
            both(i, "load()", () -> market.load(), () -> model.load());
        } else if (kind == 2) {
            char c = (char) random.nextInt(256);
            put(i, "" + c);
        } else if (kind == 3) {
            int c = some(256);
            both(i, "append(" + c + ")", () -> market.append(c), () -> model.append(c));
        } else if (kind == 4) {
            both(i, "clearText()", () -> market.clearText(), () -> model.clearText());
        } else {
            for (int k = random.nextInt(30); k > 0; k--) {
                put(i, MOVES[random.nextInt(MOVES.length)]);
            }
        }
        both(i, "errorPosition()", () -> market.errorPosition(), () -> model.errorPosition());
    }

    private void put(int i, String signs) {
        for (char c : signs.toCharArray()) {
            both(i, "append(" + (int) c + ")", () -> market.append(c), () -> model.append(c));
        }
    }

    private void compareStates(int i) {
        for (int what = 0; what <= 11; what++) {
            int k = what;
            both(i, "then about(" + k + ")", () -> market.about(k), () -> model.about(k));
        }
        for (int p = 0; p < model.now.players; p++) {
            for (int what = 0; what <= 8; what++) {
                int owner = p;
                int k = what;
                both(i, "then player(" + p + ", " + k + ")", () -> market.player(owner, k),
                    () -> model.player(owner, k));
            }
        }
        for (int q = 0; q <= 5; q++) {
            for (int k = 0; k <= 3; k++) {
                int place = q;
                int spot = k;
                both(i, "then worker(" + q + ", " + k + ")", () -> market.worker(place, spot),
                    () -> model.worker(place, spot));
            }
        }
        for (int what = 0; what <= 2; what++) {
            int k = what;
            both(i, "then setting(" + k + ")", () -> market.setting(k), () -> model.setting(k));
        }
        both(i, "then weather(1)", () -> market.weather(1), () -> model.weather(1));
    }
}
