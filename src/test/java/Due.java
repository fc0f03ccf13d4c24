/** What the tests share: answers against those that are due, and desks made from a text. */
final class Due {
    static final int NONE = -1, UNKNOWN = -101, OUTSIDE = -102, STATE = -103, FULL = -104;
    static final long MORE = 3000000000L;

    private static int checked = 0;
    private static int wrong = 0;

    private Due() {
    }

    static void is(String call, long got, long want) {
        checked++;
        if (got != want) {
            wrong++;
            if (wrong <= 50) {
                System.out.println(call + " answered " + got + ", due is " + want);
            }
        }
    }

    static void that(String what, boolean holds) {
        is(what, holds ? 1 : 0, 1);
    }

    static boolean allRight() {
        return wrong == 0;
    }

    static void end() {
        System.out.println(checked + " answers, " + wrong + " not as due");
        if (wrong != 0 || checked == 0) {
            System.exit(1);
        }
    }

    static TariffDesk typed(TariffDesk x, String text) {
        for (int i = 0; i < text.length(); i++) {
            x.letter(text.charAt(i));
        }
        return x;
    }

    static TariffDesk desk(String text) {
        TariffDesk x = typed(new TariffDesk(), text);
        int tariffs = (text.length() + 1) / 12;
        is("desk() of " + text, x.desk(), tariffs);
        return x;
    }

    /** All that can be asked of a desk: two that tell the same here are in the same state, but for the image. */
    static String state(TariffDesk x) {
        StringBuilder told = new StringBuilder();
        for (int what = 0; what <= 7; what++) {
            told.append(x.count(what)).append(' ');
        }
        for (int t = 0; t < x.count(0); t++) {
            for (int what = 0; what <= 6; what++) {
                told.append(x.tariff(t, what)).append(' ');
            }
            told.append(x.price(t, x.tariff(t, 1))).append(' ').append(x.price(t, x.tariff(t, 2))).append(' ');
        }
        for (int n = 1; n <= 127; n++) {
            told.append(x.node(n, 0)).append(' ');
        }
        for (int q = 0; q < 64; q++) {
            told.append(x.cheapest(q)).append(' ').append(x.cost(q)).append(' ');
        }
        return told.append(x.fault()).append(' ').append(x.digest()).toString();
    }
}
