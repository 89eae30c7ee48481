/** Markets for the tests. */
final class Markets {
    private Markets() {
    }

    static SaltMarket begun(int players, long seed) {
        SaltMarket x = new SaltMarket();
        x.begin(players, seed);
        return x;
    }

    static SaltMarket typed(String signs) {
        SaltMarket x = new SaltMarket();
        type(x, signs);
        return x;
    }

    /** Writes the signs behind the text. */
    static void type(SaltMarket x, String signs) {
        for (char c : signs.toCharArray()) {
            x.append(c);
        }
    }

    static SaltMarket loaded(String signs) {
        SaltMarket x = typed(signs);
        x.load();
        return x;
    }

    static void pass(SaltMarket x, int times) {
        for (int i = 0; i < times; i++) {
            x.pass();
        }
    }

    /** What undo() answers until nothing is remembered: how many states are. */
    static int countRemembered(SaltMarket x) {
        int count = 0;
        while (!Check.answerOf(x::undo).startsWith("throws.")) {
            count++;
        }
        return count;
    }
}
