/** Promises 12 to 17: cheapest, cost, piece, bargain, crossing, would. */
public final class CheapestTest {
    private static final int[] NO_QUANTITIES = {-1, 64, Integer.MIN_VALUE, Integer.MAX_VALUE};

    public static void main(String[] args) {
        promises12And13();
        promise14();
        promise15();
        promise16();
        promise17();
        Due.end();
    }

    /** 0 to 9 none, 10 to 19 by 0, 20 to 24 by 1, 25 to 29 by 0 (it ties at 25), 30 to 39 none, 40 by 2. */
    private static TariffDesk withGaps() {
        return Due.desk("f+0+10@1029,t+1-15@2029,s-2+00@4040");
    }

    private static void promises12And13() {
        TariffDesk x = withGaps();
        for (int q = 0; q < 64; q++) {
            int tariff = q < 10 ? -1 : q < 20 ? 0 : q < 25 ? 1 : q < 30 ? 0 : q == 40 ? 2 : -1;
            long price = tariff == 0 ? 10 : tariff == 1 ? q - 15 : -160;
            Due.is("cheapest(" + q + ")", x.cheapest(q), tariff);
            Due.is("cost(" + q + ")", x.cost(q), tariff == -1 ? Due.NONE : Due.MORE + price);
        }
        for (int q : NO_QUANTITIES) {
            Due.is("cheapest(" + q + ")", x.cheapest(q), Due.UNKNOWN);
            Due.is("cost(" + q + ")", x.cost(q), Due.UNKNOWN);
            Due.is("cheapest(" + q + ") without a DESK", new TariffDesk().cheapest(q), Due.UNKNOWN);
        }
        Due.is("cheapest(5) without a DESK", new TariffDesk().cheapest(5), Due.UNKNOWN);
        Due.is("cost(5) without a DESK", new TariffDesk().cost(5), Due.UNKNOWN);
        x = Due.desk("t+1+00@0063,t-1+62@0063");
        Due.is("like prices: the lesser number", x.cheapest(31), 0);
        Due.is("then the cheaper", x.cheapest(32), 1);
        x = Due.desk("t-1+62@0063,t+1+00@0063");
        Due.is("like prices: the lesser number", x.cheapest(31), 0);
        Due.is("ahead of it the cheaper", x.cheapest(30), 1);
        x.offer(1, 0, Integer.MIN_VALUE, 63);
        Due.is("the least cost", x.cost(63), Due.MORE - 2147483648L);
        x.undo();
        Due.is("after undo()", x.cheapest(63), 0);
    }

    private static void pieceIs(TariffDesk x, int piece, int tariff, int first, int last) {
        Due.is("piece(" + piece + ", 0)", x.piece(piece, 0), tariff);
        Due.is("piece(" + piece + ", 1)", x.piece(piece, 1), first);
        Due.is("piece(" + piece + ", 2)", x.piece(piece, 2), last);
        Due.is("piece(" + piece + ", 3)", x.piece(piece, 3), Due.OUTSIDE);
        Due.is("piece(" + piece + ", -1)", x.piece(piece, -1), Due.OUTSIDE);
    }

    private static void noPiece(TariffDesk x, int piece) {
        for (int what = -1; what <= 3; what++) {
            Due.is("piece(" + piece + ", " + what + ")", x.piece(piece, what), Due.UNKNOWN);
        }
    }

    private static void promise14() {
        TariffDesk x = withGaps();
        pieceIs(x, 0, 0, 10, 19);
        pieceIs(x, 1, 1, 20, 24);
        pieceIs(x, 2, 0, 25, 29);
        pieceIs(x, 3, 2, 40, 40);
        noPiece(x, 4);
        noPiece(x, -1);
        noPiece(x, Integer.MIN_VALUE);
        noPiece(x, Integer.MAX_VALUE);
        noPiece(new TariffDesk(), 0);
        x = Due.desk("f+0+10@0063");
        pieceIs(x, 0, 0, 0, 63);
        noPiece(x, 1);
        x.undo();
        noPiece(x, 0);
        // one tariff alone cannot be cut by a gap, two of one price can meet
        x = Due.desk("f+0+10@0031,f+0+10@3263");
        pieceIs(x, 0, 0, 0, 31);
        pieceIs(x, 1, 1, 32, 63);
        x = Due.desk("f+0+10@0000,f+0+10@6363");
        pieceIs(x, 0, 0, 0, 0);
        pieceIs(x, 1, 1, 63, 63);
    }

    private static void promise15() {
        TariffDesk x = withGaps();
        Due.is("bargain(0, 63)", x.bargain(0, 63), 40);
        Due.is("bargain(0, 39)", x.bargain(0, 39), 20);
        Due.is("bargain(21, 39)", x.bargain(21, 39), 21);
        Due.is("like prices: the least", x.bargain(0, 19), 10);
        Due.is("like prices: the least", x.bargain(25, 39), 25);
        Due.is("GAPS alone", x.bargain(30, 39), Due.NONE);
        Due.is("one alone", x.bargain(40, 40), 40);
        Due.is("one alone", x.bargain(41, 41), Due.NONE);
        Due.is("the last one counts", x.bargain(39, 40), 40);
        for (int q : NO_QUANTITIES) {
            Due.is("bargain(" + q + ", 63)", x.bargain(q, 63), Due.OUTSIDE);
            Due.is("bargain(0, " + q + ")", x.bargain(0, q), Due.OUTSIDE);
            Due.is("bargain(" + q + ", 63) without a DESK", new TariffDesk().bargain(q, 63), Due.OUTSIDE);
        }
        Due.is("bargain(6, 5)", x.bargain(6, 5), Due.OUTSIDE);
        Due.is("bargain(6, 5) without a DESK", new TariffDesk().bargain(6, 5), Due.OUTSIDE);
        Due.is("bargain(5, 6) without a DESK", new TariffDesk().bargain(5, 6), Due.STATE);
    }

    private static void promise16() {
        TariffDesk x = Due.desk("t+1+00@0040,t-1+62@2063,f+0+31@5063,f+0+31@3131");
        Due.is("like at 31, the second one comes later", x.crossing(0, 1), 32);
        Due.is("the least of both SPANS", x.crossing(1, 0), 20);
        Due.is("no QUANTITY of both", x.crossing(0, 2), Due.NONE);
        Due.is("never BETTER", x.crossing(1, 2), Due.NONE);
        Due.is("at once", x.crossing(2, 1), 50);
        Due.is("like ones: the lesser number", x.crossing(3, 0), 31);
        Due.is("like ones: the lesser number", x.crossing(0, 3), Due.NONE);
        Due.is("the same", x.crossing(1, 1), Due.UNKNOWN);
        int[] unknown = {-1, 4, Integer.MIN_VALUE, Integer.MAX_VALUE};
        for (int t : unknown) {
            Due.is("crossing(" + t + ", 0)", x.crossing(t, 0), Due.UNKNOWN);
            Due.is("crossing(0, " + t + ")", x.crossing(0, t), Due.UNKNOWN);
            Due.is("crossing(" + t + ", " + t + ")", x.crossing(t, t), Due.UNKNOWN);
        }
        // a CROSSING goes by the two alone, though a third one is cheaper
        x.offer(1, 0, -99, 63);
        Due.is("crossing(0, 1)", x.crossing(0, 1), 32);
    }

    private static void promise17() {
        TariffDesk x = withGaps();
        String before = Due.state(x);
        Due.is("GAPS are won", x.would(1, 0, 99, 9), 10);
        Due.is("like prices are not", x.would(1, 0, 10, 1019), 0);
        Due.is("less is", x.would(1, 0, 9, 1019), 10);
        // 20 to 23 cost 5 to 8, 24 costs 9, 25 to 29 cost 10; 30 to 39 are GAPS; 40 costs -160
        Due.is("some", x.would(1, 0, 9, 2040), 5 + 10);
        Due.is("all", x.would(1, 0, -161, 63), 64);
        Due.is("STEEP", x.would(2, -2, -1, 4040), 1);
        Due.is("STEEP, like", x.would(2, -2, 0, 4040), 0);
        Due.is("BEGUN", x.would(3, 1, 5, 1019), 5);
        Due.is("SALE, half of 19 is 9", x.would(4, 0, 19, 1019), 10);
        Due.is("SALE, half of 21 is 10", x.would(4, 0, 21, 1019), 0);
        Due.that("would() changes nothing", before.equals(Due.state(x)));
        Due.is("then it is so", x.offer(3, 1, 5, 1019) >= 0 ? x.tariff(3, 4) : -9, 5);
    }
}
