/** Promises 10 and 11: offer, undo. */
public final class OfferTest {
    private static final int MIN = Integer.MIN_VALUE, MAX = Integer.MAX_VALUE;

    public static void main(String[] args) {
        pushes();
        pushesThroughAllLevels();
        tooGreat();
        refusals();
        undoes();
        undoLeavesWhatIsSeen();
        Due.end();
    }

    private static void pushes() {
        TariffDesk x = Due.desk("f+0+10@0063");
        Due.is("dearer all over is gone", x.offer(0, 0, 11, 63), 0);
        Due.is("like all over is gone, it came later", x.offer(0, 0, 10, 63), 0);
        Due.is("cheaper all over takes the place, the other one is gone", x.offer(0, 0, 9, 63), 1);
        Due.is("NODE 1", x.node(1, 0), 3);
        // -12 + q against 9: better at 0 to 20, not at 31: goes to NODE 2, then stands there alone
        Due.is("loses at the MIDDLE, goes on below", x.offer(0, 1, -12, 63), 1);
        Due.is("NODE 2", x.node(2, 0), 4);
        // 72 - q against 9: better at 63 alone
        Due.is("goes on above", x.offer(0, -1, 71, 63), 1);
        Due.is("NODE 3", x.node(3, 0), 5);
        // 8 all over: wins NODE 1, the flat 9 is gone from there
        Due.is("takes NODE 1", x.offer(1, 0, 8, 63), 1);
        Due.is("NODE 1", x.node(1, 0), 6);
        // 38 - q: 7 at 31, wins NODE 1; 8 goes on to the lower half, there at 15 it is 8 against 3: dearer,
        // at 0 8 against -12, at 31 8 against 19: to NODE 5
        Due.is("the one that lost goes on, and on", x.offer(0, -1, 38, 63), 2);
        Due.is("NODE 1", x.node(1, 0), 7);
        Due.is("NODE 2", x.node(2, 0), 4);
        Due.is("NODE 5", x.node(5, 0), 6);

        x = Due.desk("f+0+10@6363");
        Due.is("like at a NODE of one alone", x.offer(0, 0, 10, 6363), 0);
        Due.is("cheaper at a NODE of one alone", x.offer(0, 0, 9, 6363), 1);
        Due.is("NODE 127", x.node(127, 0), 2);
        Due.is("1 to 62: ten NODES", x.offer(0, 0, 9, 162), 10);
        int[] ten = {65, 33, 17, 9, 5, 6, 14, 30, 62, 126};
        for (int node : ten) {
            Due.is("NODE " + node, x.node(node, 0), 3);
        }
    }

    /** Each one is cheaper than all before it for one QUANTITY alone, and so goes one level deeper. */
    private static void pushesThroughAllLevels() {
        TariffDesk low = Due.desk("f+0+00@0063");
        TariffDesk high = Due.desk("f+0+00@0063");
        for (int t = 1; t <= 5; t++) {
            Due.is("offer no. " + t, low.offer(0, t, -t, 63), 1);
            Due.is("the lower half, and on", low.node(1 << t, 0), t);
        }
        // 0 is the MIDDLE of 0 to 1: the new one wins there, the old one is BETTER for 1 (like, and earlier)
        Due.is("offer no. 6", low.offer(0, 6, -6, 63), 2);
        Due.is("takes NODE 32", low.node(32, 0), 6);
        Due.is("goes on to the upper half", low.node(65, 0), 5);
        Due.is("none goes on to the lower half", low.node(64, 0), Due.NONE);
        for (int t = 1; t <= 6; t++) {
            Due.is("offer no. " + t, high.offer(0, -t, 62 * t, 63), 1);
            Due.is("the upper half, and on", high.node((2 << t) - 1, 0), t);
        }
        Due.is("offer no. 7", high.offer(0, -7, 62 * 7, 63), 1);
        Due.is("a NODE of one alone", high.node(127, 0), 7);
        Due.is("the other one is gone", high.tariff(6, 3), 0);
        Due.is("offer no. 8, dearer", high.offer(0, -5, 62 * 5, 63), 0);
        Due.is("undo()", high.undo(), 8);
        Due.is("undo()", high.undo(), 7);
        Due.is("it STANDS there again", high.node(127, 0), 6);
    }

    private static void offered(int kind, int rate, int base, int span, boolean fine) {
        TariffDesk x = Due.desk("f+0+10@0063");
        x.undo();
        String call = "(" + kind + ", " + rate + ", " + base + ", " + span + ")";
        int would = x.would(kind, rate, base, span);
        int offer = x.offer(kind, rate, base, span);
        Due.is("offer" + call + " is fine", offer == Due.OUTSIDE ? 0 : 1, fine ? 1 : 0);
        Due.is("would" + call + " is fine", would == Due.OUTSIDE ? 0 : 1, fine ? 1 : 0);
        Due.is("how many TARIFFS", x.count(0), fine ? 1 : 0);
    }

    private static void tooGreat() {
        offered(0, MAX, 0, 101, true);
        offered(0, MAX, 0, 102, false);
        offered(0, MAX, 1, 101, false);
        offered(0, MAX, 1, 0, true);
        offered(0, MIN, 0, 101, true);
        offered(0, MIN, -1, 101, false);
        offered(0, MIN, 0, 102, false);
        offered(0, 34087042, 0, 63, true);
        offered(0, 34087043, 0, 63, false);
        offered(0, 34087042, 1, 63, true);
        offered(0, 34087042, 2, 63, false);
        offered(0, -34087042, -2, 63, true);
        offered(0, -34087042, -3, 63, false);
        // the rate's part alone is too great, the PRICE is not
        offered(0, 1073741824, -5, 202, false);
        offered(0, 1073741824, -5, 102, false);
        offered(0, -1073741825, 5, 202, false);
        // too great at FIRST alone
        offered(0, -1, MIN, 0, true);
        offered(0, -1, MIN, 1, false);
        offered(0, 1, MIN, 1, true);
        offered(1, MAX, MAX, 63, true);
        offered(1, MIN, MIN, 63, true);
        offered(2, 1073741823, 0, 0, true);
        offered(2, 1073741824, 0, 0, false);
        offered(2, -1073741824, 0, 0, true);
        offered(2, -1073741825, 0, 0, false);
        offered(2, 1073741823, 1, 101, true);
        offered(2, 1073741823, 2, 101, false);
        offered(2, -1073741824, 0, 101, true);
        offered(2, -1073741824, -1, 101, false);
        offered(2, 536870911, 0, 202, true);
        offered(2, 536870912, -5, 202, false);
        offered(3, MAX, 0, 6263, true);
        offered(3, MAX, 1, 6263, false);
        offered(3, MAX, 0, 6163, false);
        offered(3, MIN, MIN, 6363, true);
        offered(3, MIN, MIN, 6263, false);
        offered(3, 1073741824, -9, 6163, false);
        offered(4, MAX, 1, 6263, true);
        offered(4, MAX, 2, 6263, false);
        offered(4, MIN, -1, 6263, false);
        offered(4, 0, MIN, 63, true);
        offered(4, 0, MAX, 63, true);
    }

    private static void refused(TariffDesk x, int kind, int span, int want) {
        long before = x.digest();
        Due.is("offer(" + kind + ", 1, 1, " + span + ")", x.offer(kind, 1, 1, span), want);
        Due.is("would(" + kind + ", 1, 1, " + span + ")", x.would(kind, 1, 1, span), want);
        Due.is("refused, nothing changes", x.digest(), before);
    }

    private static void allRefused(TariffDesk x, int otherwise) {
        int[] kinds = {-1, 5, MIN, MAX};
        for (int kind : kinds) {
            refused(x, kind, 63, Due.OUTSIDE);
        }
        int[] spans = {-1, -100, 64, 99, 100, 201, 6362, 6364, 6400, 6463, MIN, MAX, -163};
        for (int span : spans) {
            refused(x, 0, span, Due.OUTSIDE);
        }
        Due.is("TOO GREAT comes ahead", x.offer(0, MAX, 0, 202), Due.OUTSIDE);
        Due.is("TOO GREAT comes ahead", x.would(0, MAX, 0, 202), Due.OUTSIDE);
        refused(x, 0, 63, otherwise);
    }

    private static void refusals() {
        allRefused(new TariffDesk(), Due.STATE);
        TariffDesk x = Due.desk("f+0+10@0063");
        for (int t = 1; t < 40; t++) {
            Due.is("offer no. " + t, x.offer(1, 0, 10 - t, 63), 1);
        }
        allRefused(x, Due.FULL);
        Due.is("how many TARIFFS", x.count(0), 40);
        Due.is("undo()", x.undo(), 39);
        Due.is("there is room again", x.offer(1, 0, -100, 63), 1);
    }

    private static void undoes() {
        TariffDesk x = Due.desk("t+1+00@0063,t-1+63@0063");
        long[] before = new long[40];
        int[][] offers = new int[40][];
        for (int t = 2; t < 40; t++) {
            before[t] = x.digest();
            offers[t] = new int[] {t % 5, (t * 7) % 11 - 5, (t * 13) % 61 - 30, 100 * (t * 5 % 32) + 63 - t * 3 % 32};
            int nodes = x.offer(offers[t][0], offers[t][1], offers[t][2], offers[t][3]);
            Due.that("offer is taken", nodes >= 0);
        }
        for (int t = 39; t >= 20; t--) {
            Due.is("undo()", x.undo(), t);
            Due.is("all is as it was before " + t, x.digest(), before[t]);
        }
        for (int t = 20; t < 40; t++) {
            Due.is("offered again, the same comes of it", x.digest(), before[t]);
            x.offer(offers[t][0], offers[t][1], offers[t][2], offers[t][3]);
        }
        for (int t = 39; t >= 2; t--) {
            Due.is("undo()", x.undo(), t);
            Due.is("all is as it was before " + t, x.digest(), before[t]);
        }
        Due.is("those of THE DESK, too", x.undo(), 1);
        Due.is("those of THE DESK, too", x.undo(), 0);
        Due.is("there is none", x.undo(), Due.STATE);
        Due.is("THE DESK stays", x.cheapest(0), Due.NONE);
        Due.is("GAPS", x.count(3), 64);
        Due.is("numbers begin anew", x.offer(0, 1, 1, 63), 1);
        Due.is("NODE 1", x.node(1, 0), 0);
    }

    private static void undoLeavesWhatIsSeen() {
        TariffDesk x = Due.desk("t+1+00@0063,t-1+63@0063");
        x.see(1, 0, 63);
        x.see(0, 5, 5);
        x.undo();
        Due.is("undo() takes back the offer alone", x.count(5), 2);
    }
}
