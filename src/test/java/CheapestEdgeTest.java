/** CHEAPEST, PIECES, GAPS, BARGAIN, CROSSING, WOULD where there are none, like ones, all: promises 12 to 17. */
public final class CheapestEdgeTest {
    public static void main(String[] args) {
        cheapestAtTheEndsOfASpan();
        cheapestOfLikeOnes();
        costsOfGapsAndOfNothing();
        noPieces();
        aPieceOfAll();
        sixtyFourPieces();
        piecesOfTheSameTariff();
        piecesAroundAGap();
        gapsAreCounted();
        bargainOfLikeOnes();
        bargainWithinItsBounds();
        bargainOfGaps();
        crossingAtTheEndsOfTheSpans();
        crossingOfLikeOnes();
        crossingIsTheLeast();
        wouldOfLikeOnes();
        wouldOfNoneAndOfAll();
        wouldAtTheEndsOfASpan();
        wouldIsWhatOfferMakes();
        Due.end();
    }

    private static Run empty() {
        return Run.ofDesk("f+0+00@0000").then(Call.undo());
    }

    private static void cheapestAtTheEndsOfASpan() {
        int[] spans = {0, 1, 63, 101, 162, 3132, 3131, 3232, 6263, 6363, 1020};
        for (int span : spans) {
            TariffDesk x = empty().then(Call.offer(0, 1, 0, span)).object();
            for (int q = 0; q <= 63; q++) {
                boolean has = q >= span / 100 && q <= span % 100;
                Due.is("cheapest(" + q + ") of " + span, x.cheapest(q), has ? 0 : Due.NONE);
                Due.is("cost(" + q + ") of " + span, x.cost(q), has ? Due.MORE + q : Due.NONE);
            }
            for (int q : new int[] {-1, 64}) {
                Due.is("cheapest(" + q + ")", x.cheapest(q), Due.UNKNOWN);
                Due.is("cost(" + q + ")", x.cost(q), Due.UNKNOWN);
            }
        }
    }

    /** "BETTER for it than all others": of like ones the one that was OFFERED first, wherever it STANDS. */
    private static void cheapestOfLikeOnes() {
        // the lesser number at a NODE far below, then at one far above
        TariffDesk x = empty().then(Call.offer(1, 0, 5, 3131), Call.offer(1, 0, 5, 63)).object();
        Due.is("0 STANDS below", x.cheapest(31), 0);
        Due.is("beside it", x.cheapest(30), 1);
        Due.is("beside it", x.cheapest(32), 1);
        x = empty().then(Call.offer(1, 0, 5, 63), Call.offer(1, 0, 5, 3131)).object();
        Due.is("0 STANDS above", x.cheapest(31), 0);
        Due.is("1 STANDS, too", x.node(95, 0), 1);
        Due.is("1 is CHEAPEST for none", x.count(4), 1);
        x.offer(1, 0, 4, 3131);
        Due.is("one less", x.cheapest(31), 2);
        x.undo();
        Due.is("after undo() the first one again", x.cheapest(31), 0);
    }

    /** "NONE: a GAP"; a cost of -1 is no NONE. */
    private static void costsOfGapsAndOfNothing() {
        TariffDesk x = empty().then(Call.offer(0, 1, -1, 2)).object();
        Due.is("a cost of -1", x.cost(0), 2999999999L);
        Due.is("a cost of 0", x.cost(1), 3000000000L);
        Due.is("a cost of 1", x.cost(2), 3000000001L);
        Due.is("a GAP", x.cost(3), Due.NONE);
        Due.is("a GAP", x.cheapest(3), Due.NONE);
        Due.is("without a DESK", new TariffDesk().cost(3), Due.UNKNOWN);
        Due.is("without a DESK", new TariffDesk().cheapest(3), Due.UNKNOWN);
    }

    private static void piece(TariffDesk x, int piece, int tariff, int first, int last) {
        Due.is("piece(" + piece + ", 0)", x.piece(piece, 0), tariff);
        Due.is("piece(" + piece + ", 1)", x.piece(piece, 1), first);
        Due.is("piece(" + piece + ", 2)", x.piece(piece, 2), last);
    }

    private static void pieces(TariffDesk x, int many) {
        Due.is("PIECES", x.count(2), many);
        Due.is("piece(" + many + ", 0)", x.piece(many, 0), Due.UNKNOWN);
        Due.is("piece(-1, 0)", x.piece(-1, 0), Due.UNKNOWN);
        if (many > 0) {
            Due.that("piece(" + (many - 1) + ", 0)", x.piece(many - 1, 0) >= 0);
        }
    }

    private static void noPieces() {
        pieces(new TariffDesk(), 0);
        pieces(empty().object(), 0);
        pieces(empty().then(Call.offer(1, 0, 0, 3131)).object(), 1);
    }

    private static void aPieceOfAll() {
        TariffDesk x = empty().then(Call.offer(2, -3, 5, 63)).object();
        pieces(x, 1);
        piece(x, 0, 0, 0, 63);
    }

    private static void sixtyFourPieces() {
        Run run = empty().then(Call.offer(1, 0, 9, 63));
        for (int q = 1; q < 64; q += 2) {
            run = run.then(Call.offer(1, 0, 8, 101 * q));
        }
        TariffDesk x = run.object();
        pieces(x, 64);
        for (int q = 0; q < 64; q++) {
            piece(x, q, q % 2 == 0 ? 0 : (q + 1) / 2, q, q);
        }
        x.undo();
        pieces(x, 63);
        piece(x, 62, 0, 62, 63);
    }

    /** "as many QUANTITIES in a row as have the same CHEAPEST one (at least one, as many as can be)" */
    private static void piecesOfTheSameTariff() {
        TariffDesk x = empty().then(Call.offer(1, 0, 9, 63), Call.offer(1, 0, 8, 1010)).object();
        pieces(x, 3);
        piece(x, 0, 0, 0, 9);
        piece(x, 1, 1, 10, 10);
        piece(x, 2, 0, 11, 63);
        // the PRICE goes on as before, but it is another one's
        x = empty().then(Call.offer(1, 0, 9, 31), Call.offer(1, 0, 9, 3263)).object();
        pieces(x, 2);
        piece(x, 0, 0, 0, 31);
        piece(x, 1, 1, 32, 63);
    }

    private static void piecesAroundAGap() {
        TariffDesk x = empty().then(Call.offer(1, 0, 9, 1), Call.offer(1, 0, 9, 303), Call.offer(1, 0, 9, 6363)).object();
        pieces(x, 3);
        piece(x, 0, 0, 0, 1);
        piece(x, 1, 1, 3, 3);
        piece(x, 2, 2, 63, 63);
        x = empty().then(Call.offer(1, 0, 9, 162)).object();
        pieces(x, 1);
        piece(x, 0, 0, 1, 62);
    }

    private static void gapsAreCounted() {
        Due.is("without a DESK", new TariffDesk().count(3), 0);
        Due.is("a DESK with none", empty().object().count(3), 64);
        Due.is("one QUANTITY", empty().then(Call.offer(1, 0, 0, 0)).object().count(3), 63);
        Due.is("all but one", empty().then(Call.offer(1, 0, 0, 62)).object().count(3), 1);
        Due.is("all but one", empty().then(Call.offer(1, 0, 0, 163)).object().count(3), 1);
        Due.is("all", empty().then(Call.offer(1, 0, 0, 63)).object().count(3), 0);
        Due.is("two that overlap", empty().then(Call.offer(1, 0, 0, 40), Call.offer(1, 0, 0, 2050)).object().count(3), 13);
    }

    /** "of like ones the least" */
    private static void bargainOfLikeOnes() {
        TariffDesk x = empty().then(Call.offer(1, 0, 5, 1020), Call.offer(1, 0, 5, 3040)).object();
        Due.is("bargain(0, 63)", x.bargain(0, 63), 10);
        Due.is("bargain(11, 63)", x.bargain(11, 63), 11);
        Due.is("bargain(21, 63)", x.bargain(21, 63), 30);
        Due.is("bargain(40, 40)", x.bargain(40, 40), 40);
        x.offer(1, 0, 4, 6363);
        Due.is("one less at the end", x.bargain(0, 63), 63);
        Due.is("but not that one", x.bargain(0, 62), 10);
        x.offer(1, 0, 4, 0);
        Due.is("a like one ahead of it", x.bargain(0, 63), 0);
        Due.is("but not that one", x.bargain(1, 63), 63);
    }

    /** "OUTSIDE: from, to (0 to 63, from no more than to)" */
    private static void bargainWithinItsBounds() {
        TariffDesk falls = empty().then(Call.offer(0, -1, 0, 63)).object();
        TariffDesk rises = empty().then(Call.offer(0, 1, 0, 63)).object();
        for (int q = 0; q < 64; q++) {
            Due.is("falls: bargain(0, " + q + ")", falls.bargain(0, q), q);
            Due.is("falls: bargain(" + q + ", " + q + ")", falls.bargain(q, q), q);
            Due.is("rises: bargain(" + q + ", 63)", rises.bargain(q, 63), q);
            Due.is("rises: bargain(" + q + ", " + (q - 1) + ")", rises.bargain(q, q - 1), Due.OUTSIDE);
        }
        Due.is("bargain(-1, 63)", falls.bargain(-1, 63), Due.OUTSIDE);
        Due.is("bargain(0, 64)", falls.bargain(0, 64), Due.OUTSIDE);
        Due.is("bargain(64, 64)", falls.bargain(64, 64), Due.OUTSIDE);
        Due.is("bargain(-1, -1)", falls.bargain(-1, -1), Due.OUTSIDE);
    }

    /** "none, if all are GAPS" */
    private static void bargainOfGaps() {
        TariffDesk x = empty().object();
        Due.is("a DESK with none", x.bargain(0, 63), Due.NONE);
        x.offer(0, 1, Integer.MAX_VALUE - 20, 2020);
        Due.is("ahead of it", x.bargain(0, 19), Due.NONE);
        Due.is("up to it, however dear", x.bargain(0, 20), 20);
        Due.is("it alone", x.bargain(20, 20), 20);
        Due.is("behind it", x.bargain(21, 63), Due.NONE);
        Due.is("without a DESK", new TariffDesk().bargain(0, 63), Due.STATE);
    }

    private static int crossing(Call one, Call other) {
        return empty().then(one, other).object().crossing(0, 1);
    }

    /** "the least QUANTITY of both SPANS for which the second one is BETTER; none" */
    private static void crossingAtTheEndsOfTheSpans() {
        Call all = Call.offer(1, 0, 5, 63);
        Due.is("at 0", crossing(all, Call.offer(1, 0, 4, 63)), 0);
        Due.is("at 63", crossing(all, Call.offer(1, 0, 4, 6363)), 63);
        Due.is("at 63 alone", crossing(all, Call.offer(0, -1, 67, 63)), 63);
        Due.is("never", crossing(all, Call.offer(0, -1, 68, 63)), Due.NONE);
        Due.is("the second one begins later", crossing(all, Call.offer(1, 0, 4, 1020)), 10);
        Due.is("the first one begins later", crossing(Call.offer(1, 0, 5, 1020), Call.offer(1, 0, 4, 63)), 10);
        Due.is("they meet in one", crossing(Call.offer(1, 0, 5, 20), Call.offer(1, 0, 4, 2030)), 20);
        Due.is("they meet in one", crossing(Call.offer(1, 0, 5, 2030), Call.offer(1, 0, 4, 20)), 20);
        Due.is("they don't meet", crossing(Call.offer(1, 0, 5, 19), Call.offer(1, 0, 4, 2030)), Due.NONE);
        Due.is("they don't meet", crossing(Call.offer(1, 0, 5, 2030), Call.offer(1, 0, 4, 19)), Due.NONE);
        // 40 - q is less than 5 from 36 on
        Due.is("BETTER at LAST alone", crossing(Call.offer(1, 0, 5, 36), Call.offer(0, -1, 40, 63)), 36);
        Due.is("one too short", crossing(Call.offer(1, 0, 5, 35), Call.offer(0, -1, 40, 63)), Due.NONE);
    }

    private static void crossingOfLikeOnes() {
        TariffDesk x = empty().then(Call.offer(0, 1, 0, 63), Call.offer(0, -1, 62, 63), Call.offer(0, 1, 0, 63)).object();
        Due.is("like at 31: 0 is BETTER there", x.crossing(0, 1), 32);
        Due.is("the other way round", x.crossing(1, 0), 0);
        Due.is("like all over, the second one later", x.crossing(0, 2), Due.NONE);
        Due.is("like all over, the second one earlier", x.crossing(2, 0), 0);
        Due.is("like at 31: 1 is BETTER there", x.crossing(2, 1), 31);
        Due.is("the same one", x.crossing(1, 1), Due.UNKNOWN);
        Due.is("one too many", x.crossing(0, 3), Due.UNKNOWN);
        Due.is("one too many", x.crossing(3, 0), Due.UNKNOWN);
        Due.is("one too few", x.crossing(-1, 0), Due.UNKNOWN);
    }

    private static void crossingIsTheLeast() {
        for (int c = -1; c <= 64; c++) {
            // c - q: less than 0 from c + 1 on
            int due = c < 0 ? 0 : c < 63 ? c + 1 : Due.NONE;
            Due.is(c + " - q", crossing(Call.offer(1, 0, 0, 63), Call.offer(0, -1, c, 63)), due);
            Due.is("q - " + c, crossing(Call.offer(1, 0, 0, 63), Call.offer(0, 1, -c, 63)), c > 0 ? 0 : Due.NONE);
        }
    }

    /** "for how many QUANTITIES it would be CHEAPEST, if it was OFFERED now": not for like ones. */
    private static void wouldOfLikeOnes() {
        TariffDesk x = empty().then(Call.offer(1, 0, 5, 63)).object();
        Due.is("like", x.would(1, 0, 5, 63), 0);
        Due.is("one less", x.would(1, 0, 4, 63), 64);
        Due.is("one more", x.would(1, 0, 6, 63), 0);
        for (int c = 0; c <= 63; c++) {
            // 5 + c - q: like at c, less behind it
            Due.is("like at " + c, x.would(0, -1, 5 + c, 63), 63 - c);
            Due.is("like at " + c, x.would(0, 1, 5 - c, 63), c);
        }
    }

    private static void wouldOfNoneAndOfAll() {
        TariffDesk x = empty().object();
        Due.is("all are GAPS, however dear", x.would(1, 0, Integer.MAX_VALUE, 63), 64);
        Due.is("of one alone", x.would(1, 0, Integer.MAX_VALUE, 6363), 1);
        x.offer(1, 0, Integer.MIN_VALUE, 63);
        Due.is("nothing is less", x.would(1, 0, Integer.MIN_VALUE, 63), 0);
        Due.is("TARIFFS", x.count(0), 1);
        Due.is("without a DESK", new TariffDesk().would(1, 0, 0, 63), Due.STATE);
    }

    private static void wouldAtTheEndsOfASpan() {
        TariffDesk x = empty().then(Call.offer(1, 0, 5, 1020)).object();
        Due.is("up to FIRST", x.would(1, 0, 9, 10), 10);
        Due.is("from LAST on", x.would(1, 0, 9, 2063), 43);
        Due.is("ahead of FIRST", x.would(1, 0, 9, 9), 10);
        Due.is("behind LAST", x.would(1, 0, 9, 2163), 43);
        Due.is("around it", x.would(1, 0, 9, 63), 53);
        Due.is("within it", x.would(1, 0, 9, 1119), 0);
        Due.is("within it, less", x.would(1, 0, 4, 1119), 9);
    }

    private static void wouldIsWhatOfferMakes() {
        Run run = Run.ofDesk("t+1+00@0063,t-1+62@0063,f+0+31@1050,s-1+93@0063");
        for (int t = 4; t < 40; t++) {
            int kind = t % 5;
            int rate = t * 7 % 11 - 5;
            int base = t * 13 % 61 - 30;
            int span = 100 * (t * 5 % 32) + 63 - t * 3 % 32;
            TariffDesk x = run.object();
            long before = x.digest();
            int would = x.would(kind, rate, base, span);
            Due.is("would() changes nothing", x.digest(), before);
            Due.that("offer()", x.offer(kind, rate, base, span) >= 0);
            Due.is("would() of " + t, would, x.tariff(t, 4));
            run = run.then(Call.offer(kind, rate, base, span));
        }
    }
}
