/** What the tests share: answers against those that are due, and desks made from a text. */
final class Due {
    static final int NONE = -1, UNKNOWN = -101, OUTSIDE = -102, STATE = -103, FULL = -104;
    static final long MORE = 3000000000L;

    private static int checked = 0;
    private static int wrong = 0;

    private Due() {
    }

    static void is(String call, long got, long want) {
        checked++;
        if (got != want) {
            wrong++;
            if (wrong <= 50) {
                System.out.println(call + " answered " + got + ", due is " + want);
            }
        }
    }

    static void that(String what, boolean holds) {
        is(what, holds ? 1 : 0, 1);
    }

    static boolean allRight() {
        return wrong == 0;
    }

    static void end() {
        System.out.println(checked + " answers, " + wrong + " not as due");
        if (wrong != 0 || checked == 0) {
            System.exit(1);
        }
    }

    static TariffDesk typed(TariffDesk x, String text) {
        for (int i = 0; i < text.length(); i++) {
            x.letter(text.charAt(i));
        }
        return x;
    }

    static TariffDesk desk(String text) {
        TariffDesk x = typed(new TariffDesk(), text);
        int tariffs = (text.length() + 1) / 12;
        is("desk() of " + text, x.desk(), tariffs);
        return x;
    }

    /**
     * Two objects that tell the same here are in the same state, but for the IMAGE and what can be UNDONE.
     * An object is used for at most 512 calls, so this asks little: digest() goes over most of it.
     */
    static String state(TariffDesk x) {
        StringBuilder told = new StringBuilder().append(x.digest()).append(' ').append(x.fault());
        int tariffs = x.count(0);
        for (int t = 0; t < tariffs; t++) {
            told.append(' ').append(x.price(t, x.tariff(t, 1))).append(' ').append(x.price(t, x.tariff(t, 2)));
        }
        return told.toString();
    }
}
