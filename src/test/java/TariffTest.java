/** Promises 6 to 9: tariff, as, price, node. */
public final class TariffTest {
    private static final String ALL_KINDS = "t+3-05@1020,f+3-05@1020,s+3-05@1020,b+3-05@1020";

    public static void main(String[] args) {
        promise6();
        promise7();
        promise8();
        promise9();
        Due.end();
    }

    private static TariffDesk allKinds() {
        TariffDesk x = Due.desk(ALL_KINDS);
        x.offer(4, 3, -5, 1020);
        return x;
    }

    private static void promise6() {
        TariffDesk x = allKinds();
        for (int t = 0; t < 5; t++) {
            Due.is("KIND of " + t, x.tariff(t, 0), t);
            Due.is("FIRST of " + t, x.tariff(t, 1), 10);
            Due.is("LAST of " + t, x.tariff(t, 2), 20);
        }
        // FLAT costs -5 all over, the SALE -3 and more; all but the first lose against it where BEGUN ties at 10
        Due.is("FLAT is CHEAPEST all over", x.tariff(1, 4), 11);
        Due.is("BEGUN ties at 10, comes later", x.tariff(3, 4), 0);
        // 10-11, 12-15, 16-19, 20
        Due.is("FLAT STANDS at", x.tariff(1, 3), 4);
        Due.is("SALE STANDS at", x.tariff(4, 3), 0);
        Due.is("all SORTS", x.tariff(2, 5), 31);
        // 10: 25 -5 55 -5 -3; 11: 28 -5 61 -2 0
        Due.is("ASK", x.tariff(2, 6), 11);
        x.see(2, 12, -5);
        Due.is("SORTS of one alone", x.tariff(2, 5), 2);
        Due.is("ASK, one SORT left: the least of its SPAN", x.tariff(2, 6), 10);
        Due.is("SORTS of another one", x.tariff(1, 5), 31);
        x.see(2, 12, 67);
        Due.is("no SORTS", x.tariff(2, 5), 0);
        Due.is("ASK of none", x.tariff(2, 6), Due.NONE);
        int[] unknown = {-1, 5, 40, 69, 70, Integer.MAX_VALUE, Integer.MIN_VALUE};
        for (int t : unknown) {
            Due.is("tariff(" + t + ", 0)", x.tariff(t, 0), Due.UNKNOWN);
            Due.is("UNKNOWN comes ahead of OUTSIDE", x.tariff(t, 7), Due.UNKNOWN);
        }
        int[] outside = {-1, 7, Integer.MAX_VALUE, Integer.MIN_VALUE};
        for (int what : outside) {
            Due.is("tariff(0, " + what + ")", x.tariff(0, what), Due.OUTSIDE);
        }
    }

    private static void promise7() {
        TariffDesk x = allKinds();
        for (int t = 0; t < 5; t++) {
            for (int kind = 0; kind < 5; kind++) {
                boolean is = kind == 0 || kind == t || (t == 4 && kind == 3);
                Due.is("as(" + t + ", " + kind + ")", x.as(t, kind), is ? t : Due.NONE);
            }
        }
        Due.is("as(5, 0)", x.as(5, 0), Due.UNKNOWN);
        Due.is("as(-1, 0)", x.as(-1, 0), Due.UNKNOWN);
        Due.is("as(5, 5)", x.as(5, 5), Due.UNKNOWN);
        Due.is("as(0, 5)", x.as(0, 5), Due.OUTSIDE);
        Due.is("as(0, -1)", x.as(0, -1), Due.OUTSIDE);
    }

    private static void promise8() {
        TariffDesk x = allKinds();
        long[] at10 = {25, -5, 55, -5, -3};
        long[] at20 = {55, -5, 115, 25, 27};
        for (int t = 0; t < 5; t++) {
            Due.is("price(" + t + ", 10)", x.price(t, 10), Due.MORE + at10[t]);
            Due.is("price(" + t + ", 20)", x.price(t, 20), Due.MORE + at20[t]);
            Due.is("price(" + t + ", 9)", x.price(t, 9), Due.OUTSIDE);
            Due.is("price(" + t + ", 21)", x.price(t, 21), Due.OUTSIDE);
            Due.is("price(" + t + ", 64)", x.price(t, 64), Due.UNKNOWN);
            Due.is("price(" + t + ", -1)", x.price(t, -1), Due.UNKNOWN);
        }
        Due.is("price(5, 10)", x.price(5, 10), Due.UNKNOWN);
        Due.is("price(-1, 10)", x.price(-1, 10), Due.UNKNOWN);
        x.offer(4, 0, 7, 63);
        Due.is("half of 7, rounded down", x.price(5, 0), Due.MORE + 3);
        x.offer(4, 0, -7, 63);
        Due.is("half of -7, rounded down", x.price(6, 0), Due.MORE - 4);
        x.offer(1, 5, Integer.MIN_VALUE, 63);
        Due.is("the least", x.price(7, 0), Due.MORE - 2147483648L);
        x.offer(1, 5, Integer.MAX_VALUE, 63);
        Due.is("the greatest", x.price(8, 63), Due.MORE + 2147483647L);
    }

    private static void checkNode(TariffDesk x, int node, int first, int last) {
        int middle = (first + last) / 2;
        Due.is("node(" + node + ", 1)", x.node(node, 1), first);
        Due.is("node(" + node + ", 2)", x.node(node, 2), last);
        Due.is("node(" + node + ", 3)", x.node(node, 3), middle);
        if (first < last) {
            checkNode(x, 2 * node, first, middle);
            checkNode(x, 2 * node + 1, middle + 1, last);
        }
    }

    private static void promise9() {
        TariffDesk x = new TariffDesk();
        Due.is("node(1, 0) without a DESK", x.node(1, 0), Due.NONE);
        Due.is("node(127, 0) without a DESK", x.node(127, 0), Due.NONE);
        checkNode(x, 1, 0, 63);
        checkNode(Due.desk("f+0+10@0831,t+0+05@1011"), 1, 0, 63);
        x = Due.desk("f+0+10@0831,t+0+05@1011");
        // 8-15 is NODE 9, 16-31 is NODE 5; 10-11 is NODE 37
        for (int n = 1; n <= 127; n++) {
            Due.is("node(" + n + ", 0)", x.node(n, 0), n == 9 || n == 5 ? 0 : n == 37 ? 1 : Due.NONE);
        }
        int[] unknown = {0, 128, -1, Integer.MIN_VALUE, Integer.MAX_VALUE};
        for (int n : unknown) {
            for (int what = -1; what <= 4; what++) {
                Due.is("node(" + n + ", " + what + ")", x.node(n, what), Due.UNKNOWN);
            }
        }
        Due.is("node(1, -1)", x.node(1, -1), Due.OUTSIDE);
        Due.is("node(127, 4)", x.node(127, 4), Due.OUTSIDE);
        Due.is("node(1, 4) without a DESK", new TariffDesk().node(1, 4), Due.OUTSIDE);
    }
}
