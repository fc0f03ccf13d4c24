/** Promises 18 to 20: see, forget, drawn; and what is told of SORTS and ASK. */
public final class SeenTest {
    public static void main(String[] args) {
        promise18();
        promise19();
        sorts();
        asks();
        greatPrices();
        promise20();
        Due.end();
    }

    private static void promise18() {
        TariffDesk x = Due.desk("t+1+00@1020,f+1+00@1020");
        int[] noTariffs = {-1, 2, Integer.MIN_VALUE, Integer.MAX_VALUE};
        int[] noQuantities = {-1, 64, Integer.MIN_VALUE, Integer.MAX_VALUE};
        for (int n = 1; n <= 6; n++) {
            Due.is("see() no. " + n, x.see(n % 2, n == 6 ? 63 : 0, -n), n);
            Due.is("count(5)", x.count(5), n);
        }
        Due.is("see() no. 7", x.see(0, 0, 0), Due.FULL);
        for (int t : noTariffs) {
            Due.is("see(" + t + ", 0, 0), full", x.see(t, 0, 0), Due.UNKNOWN);
        }
        for (int q : noQuantities) {
            Due.is("see(0, " + q + ", 0), full", x.see(0, q, 0), Due.UNKNOWN);
        }
        Due.is("count(5)", x.count(5), 6);
    }

    private static void promise19() {
        TariffDesk x = Due.desk("t+1+00@1020");
        x.see(0, 10, 10);
        x.see(0, 11, 12);
        Due.is("SORTS", x.tariff(0, 5), 0);
        Due.is("forget()", x.forget(), 2);
        Due.is("SORTS", x.tariff(0, 5), 31);
        Due.is("forget()", x.forget(), 0);
        Due.is("see() again", x.see(0, 0, 0), 1);
    }

    /** SORTS of a tariff, one PRICE SEEN. */
    private static void sortsBy(int quantity, int price, int sorts) {
        TariffDesk x = Due.desk("b+3+20@1020,t+3+20@1020");
        x.see(0, quantity, price);
        Due.is("SORTS by " + price + " for " + quantity, x.tariff(0, 5), sorts);
        Due.is("another one's are not touched", x.tariff(1, 5), 31);
    }

    private static void sorts() {
        sortsBy(10, 50, 1);
        sortsBy(10, 20, 2 + 8);
        sortsBy(10, 80, 4);
        sortsBy(10, 10, 16);
        sortsBy(0, 20, 1 + 2 + 4);
        sortsBy(0, -10, 8);
        sortsBy(0, -20, 16);
        sortsBy(63, 20 + 3 * 53, 8);
        sortsBy(63, 10 + 3 * 53, 16);
        sortsBy(63, 20 + 6 * 63, 4);
        sortsBy(63, 7, 0);
        TariffDesk x = Due.desk("o+0-07@1020");
        x.see(0, 15, -4);
        Due.is("half the BASE, rounded down", x.tariff(0, 5), 16);
        x = Due.desk("b+3+20@0020");
        x.see(0, 4, 32);
        Due.is("BEGUN from 0 is as a plain one", x.tariff(0, 5), 1 + 8);
        x.see(0, 9, 47);
        Due.is("and all that is SEEN is so", x.tariff(0, 5), 1 + 8);
        x.see(0, 0, 19);
        Due.is("but for one", x.tariff(0, 5), 0);
    }

    private static void asks() {
        // at 10: 50 20 80 20 10; at 11: 53 20 86 23 13
        TariffDesk x = Due.desk("b+3+20@1020");
        Due.is("ASK", x.tariff(0, 6), 11);
        x.see(0, 10, 20);
        Due.is("FLAT or BEGUN", x.tariff(0, 5), 2 + 8);
        Due.is("ASK", x.tariff(0, 6), 11);
        // rate 0: only the SALE differs, everywhere alike
        x = Due.desk("t+0+20@1020");
        Due.is("of like ones the least", x.tariff(0, 6), 10);
        // nothing differs anywhere: all five are left at worst
        x = Due.desk("t+0+00@1020");
        Due.is("of like ones the least, even so", x.tariff(0, 6), 10);
        // 0: 20 20 20 20 10, 1: 17 20 14 17 7, 10: .. one pair is always left, BEGUN from 0
        x = Due.desk("t-3+20@0020");
        Due.is("two are left at worst", x.tariff(0, 6), 1);
        // the SALE meets others: base 20 and rate 5, from 3: 3: 35 20 50 20 10; 4: 40 20 60 25 15;
        // 5: 45 20 70 30 20 (two alike); so 4
        x = Due.desk("t+5+20@0363");
        Due.is("ASK", x.tariff(0, 6), 4);
        // rate 10, base 20, from 0: 1: 30 20 40 30 20: two and two; 2: 40 20 60 40 30: two
        x = Due.desk("t+9+18@0063");
        Due.is("fewest at worst, not fewest pairs", x.tariff(0, 6), 1);
        x = Due.desk("t+9+18@6363");
        Due.is("a SPAN of one", x.tariff(0, 6), 63);
        x.see(0, 0, 1);
        Due.is("no SORTS", x.tariff(0, 6), Due.NONE);
    }

    private static void greatPrices() {
        TariffDesk x = Due.desk("f+0+00@0063");
        x.offer(1, Integer.MAX_VALUE, 2, 63);
        // twice the RATE and 2 is 0 if ints wrap; 4294967296 is not 0
        x.see(1, 1, 0);
        Due.is("PRICES as they are, however great", x.tariff(1, 5), 0);
        x.forget();
        x.see(1, 63, 2);
        Due.is("FLAT alone", x.tariff(1, 5), 2);
        x.forget();
        x.see(1, 2, 0);
        Due.is("none", x.tariff(1, 5), 0);
        x.forget();
        x.offer(1, Integer.MIN_VALUE, 7, 6363);
        // plain for 2 would be 7 if ints wrap
        x.see(2, 2, 7);
        Due.is("FLAT alone", x.tariff(2, 5), 2);
        // at 63 BEGUN and FLAT are alike; the others are not, though ints would tell 7 for STEEP, too
        Due.is("ASK", x.tariff(2, 6), 63);
        x.forget();
        x.see(2, 63, 7);
        Due.is("FLAT and BEGUN", x.tariff(2, 5), 2 + 8);
        x.offer(1, Integer.MIN_VALUE, 8, 0);
        Due.is("FIRST is 0", x.tariff(3, 6), 0);
    }

    private static long seed;

    private static int draw(int of) {
        seed = (1103515245L * seed + 12345L) % 2147483648L;
        return (int) (seed / 65536 % of);
    }

    /** What drawn() tells is what offer() makes of the same tariffs, where there is room for them. */
    private static void drawnAsOffered(String desk, int times, int from) {
        TariffDesk x = Due.desk(desk);
        TariffDesk y = Due.desk(desk);
        String before = Due.state(x);
        int old = y.count(0);
        seed = from;
        for (int i = 0; i < times; i++) {
            int kind = draw(5);
            int rate = draw(19) - 9;
            int base = draw(199) - 99;
            int first = draw(64);
            int last = first + draw(64 - first);
            Due.that("offer of a drawn one", y.offer(kind, rate, base, 100 * first + last) >= 0);
        }
        int quantities = 0;
        for (int q = 0; q < 64; q++) {
            quantities += y.cheapest(q) >= old ? 1 : 0;
        }
        int nodes = 0;
        for (int n = 1; n <= 127; n++) {
            nodes += y.node(n, 0) >= old ? 1 : 0;
        }
        String call = "drawn(" + times + ", " + from + ", ";
        Due.is(call + "0)", x.drawn(times, from, 0), quantities);
        Due.is(call + "1)", x.drawn(times, from, 1), nodes);
        Due.is(call + "2)", x.drawn(times, from, 2), seed);
        Due.that("drawn() changes nothing", before.equals(Due.state(x)));
        Due.is("undo() neither", x.undo(), old - 1);
    }

    private static void promise20() {
        int[] seeds = {0, 1, 77, 65535, 1103515245, Integer.MAX_VALUE};
        for (int from : seeds) {
            for (int times = 1; times <= 30; times += 1) {
                drawnAsOffered("f+0-20@0063", times, from);
            }
            drawnAsOffered("t-1+00@0063,f+0-20@1040,s+1-50@0609,o+2-80@3063", 30, from);
        }
        TariffDesk x = Due.desk("f+0-20@0063");
        int[] wrongTimes = {0, -1, 31, Integer.MIN_VALUE, Integer.MAX_VALUE};
        for (int times : wrongTimes) {
            Due.is("drawn(" + times + ", 1, 0)", x.drawn(times, 1, 0), Due.OUTSIDE);
            Due.is("the same without a DESK", new TariffDesk().drawn(times, 1, 0), Due.OUTSIDE);
        }
        Due.is("drawn(1, -1, 0)", x.drawn(1, -1, 0), Due.OUTSIDE);
        Due.is("drawn(1, MIN, 0)", x.drawn(1, Integer.MIN_VALUE, 0), Due.OUTSIDE);
        Due.is("drawn(1, 1, -1)", x.drawn(1, 1, -1), Due.OUTSIDE);
        Due.is("drawn(1, 1, 3)", x.drawn(1, 1, 3), Due.OUTSIDE);
        Due.is("drawn(1, 1, 3) without a DESK", new TariffDesk().drawn(1, 1, 3), Due.OUTSIDE);
        Due.is("drawn(1, 1, 2) without a DESK", new TariffDesk().drawn(1, 1, 2), Due.STATE);
        for (int t = 1; t < 40; t++) {
            x.offer(1, 0, -20 - t, 162);
        }
        String before = Due.state(x);
        int told = x.drawn(30, 5, 0);
        Due.that("40 before do not matter", told >= 0 && told <= 64);
        Due.that("NODES of them", x.drawn(30, 5, 1) >= 1);
        Due.that("drawn() changes nothing", before.equals(Due.state(x)));
    }
}
