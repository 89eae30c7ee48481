/** Markets for the tests. */
final class Markets {
    private Markets() {
    }

    static SaltMarket begun(int players, long seed) {
        SaltMarket x = new SaltMarket();
        x.begin(players, seed);
        return x;
    }

    static SaltMarket typed(String signs) {
        SaltMarket x = new SaltMarket();
        type(x, signs);
        return x;
    }

    /** Writes the signs behind the text. */
    static void type(SaltMarket x, String signs) {
        for (char c : signs.toCharArray()) {
            x.append(c);
        }
    }

    static SaltMarket loaded(String signs) {
        SaltMarket x = typed(signs);
        x.load();
        return x;
    }

    /** A game in which the moves have been done. */
    static SaltMarket moved(int players, long seed, String moves) {
        SaltMarket x = begun(players, seed);
        move(x, moves);
        return x;
    }

    /** Does moves that are written as in the text, but for blanks, which part the rounds; each must be possible. */
    static void move(SaltMarket x, String moves) {
        String rest = moves.replace(" ", "");
        while (!rest.isEmpty()) {
            char sign = rest.charAt(0);
            int length = sign == 'm' ? 3 : sign == 'l' ? 2 : 1;
            if (sign == '-') {
                x.pass();
            } else {
                x.place("pnlmhr".indexOf(sign), length == 1 ? 0 : Integer.parseInt(rest.substring(1, length)));
            }
            rest = rest.substring(length);
        }
    }

    /** A market in which there is something of everything: text, game, remembered states, two saved states. */
    static SaltMarket rich() {
        SaltMarket x = typed("S310pnl1m01-r");
        x.set(1, 2);
        x.begin(3, 10);
        x.save(0);
        move(x, "npn");
        x.set(2, 1);
        x.save(1);
        move(x, "pm01-");
        x.set(0, 3);
        return x;
    }

    /** The rich market behind the end of its game. */
    static SaltMarket over() {
        SaltMarket x = rich();
        x.set(0, 1);
        while (x.about(4) == 0) {
            x.pass();
        }
        return x;
    }

    /** A market without a game, but with the rest: a text that is no game, remembered states, a saved one. */
    static SaltMarket withoutGame() {
        SaltMarket x = typed("S31");
        x.set(0, 7);
        x.set(2, 3);
        x.save(1);
        x.set(1, 4);
        return x;
    }

    static void pass(SaltMarket x, int times) {
        for (int i = 0; i < times; i++) {
            x.pass();
        }
    }

    /** What undo() answers until nothing is remembered: how many states are. */
    static int countRemembered(SaltMarket x) {
        int count = 0;
        while (!Check.answerOf(x::undo).startsWith("throws.")) {
            count++;
        }
        return count;
    }
}
