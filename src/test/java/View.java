/** Everything that can be seen of a market, as one text. */
final class View {
    private View() {
    }

    /** What there is: the text's length is not among it, as it cannot be seen without a change. */
    static String of(SaltMarket x) {
        StringBuilder view = new StringBuilder();
        for (int what = 0; what <= 11; what++) {
            put(view, "a", x.about(what));
        }
        for (int p = 0; p < x.about(0); p++) {
            for (int what = 0; what <= 8; what++) {
                put(view, "p", x.player(p, what));
            }
        }
        for (int place = 0; place <= 5; place++) {
            for (int k = 0; k <= 3; k++) {
                put(view, "w", x.worker(place, k));
            }
        }
        for (int what = 0; what <= 2; what++) {
            put(view, "s", x.setting(what));
        }
        for (int n = 1; n <= 3; n++) {
            put(view, "d", x.weather(n));
        }
        put(view, "e", x.errorPosition());
        return view.toString();
    }

    private static void put(StringBuilder view, String mark, int number) {
        view.append(' ').append(mark).append(number);
    }
}
