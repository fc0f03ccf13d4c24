/** PRICES at their edges, and which TARIFFS are TOO GREAT: promises 8, 10, 17 and "Terms". */
public final class GreatEdgeTest {
    private static final long LEAST = -2147483648L, MOST = 2147483647L;
    private static final int[] SPANS = {0, 1, 2, 63, 101, 102, 163, 1020, 3131, 3132, 3163, 6162, 6163, 6262, 6263, 6363};

    public static void main(String[] args) {
        pricesOfEachKind();
        halfTheBaseRoundedDown();
        pricesOfTheSpanAlone();
        twiceTheRateOfSteepAlone();
        ratesPartAlone();
        priceAlone();
        flatHasNoRatesPart();
        begunCountsFromFirst();
        anyQuantityOfTheSpan();
        allKindsNearTheLimits();
        pricesAtTheLimitsAreTold();
        Due.end();
    }

    private static Run empty() {
        return Run.ofDesk("f+0+00@0000").then(Call.undo());
    }

    private static void fits(boolean due, int kind, long rate, long base, int span) {
        TariffDesk x = empty().object();
        String call = "(" + kind + ", " + rate + ", " + base + ", " + span + ")";
        int quantities = span % 100 - span / 100 + 1;
        Due.is("would" + call, x.would(kind, (int) rate, (int) base, span), due ? quantities : Due.OUTSIDE);
        int nodes = x.offer(kind, (int) rate, (int) base, span);
        Due.that("offer" + call + (due ? " is taken" : " is OUTSIDE"), due ? nodes >= 1 : nodes == Due.OUTSIDE);
        Due.is("TARIFFS after offer" + call, x.count(0), due ? 1 : 0);
        Due.is("NODES after offer" + call, x.count(1), due ? nodes : 0);
    }

    /** "The PRICE of a plain TARIFF for a QUANTITY is that many times the RATE, and the BASE; .." */
    private static void pricesOfEachKind() {
        int[][] spans = {{0, 63}, {0, 0}, {63, 63}, {10, 20}};
        for (int[] span : spans) {
            TariffDesk x = empty().object();
            for (int kind = 0; kind < 5; kind++) {
                x.offer(kind, -7, 11, 100 * span[0] + span[1]);
            }
            for (int q = span[0]; q <= span[1]; q++) {
                Due.is("plain, " + q, x.price(0, q), Due.MORE - 7 * q + 11);
                Due.is("FLAT, " + q, x.price(1, q), Due.MORE + 11);
                Due.is("STEEP, " + q, x.price(2, q), Due.MORE - 14 * q + 11);
                Due.is("BEGUN, " + q, x.price(3, q), Due.MORE - 7 * (q - span[0]) + 11);
                Due.is("SALE, " + q, x.price(4, q), Due.MORE - 7 * (q - span[0]) + 5);
            }
        }
    }

    /** "by half the BASE, rounded down" */
    private static void halfTheBaseRoundedDown() {
        long[][] halves = {{-4, -2}, {-3, -2}, {-2, -1}, {-1, -1}, {0, 0}, {1, 0}, {2, 1}, {3, 1},
            {MOST, 1073741823}, {MOST - 1, 1073741823}, {LEAST, -1073741824}, {LEAST + 1, -1073741824}};
        for (long[] half : halves) {
            TariffDesk x = empty().object();
            x.offer(4, 5, (int) half[0], 1011);
            Due.is("half of " + half[0], x.price(0, 10), Due.MORE + half[1]);
            Due.is("half of " + half[0] + ", and once the RATE", x.price(0, 11), Due.MORE + 5 + half[1]);
        }
    }

    /** "OUTSIDE: its SPAN has it not." */
    private static void pricesOfTheSpanAlone() {
        for (int span : SPANS) {
            TariffDesk x = empty().object();
            x.offer(0, 2, 3, span);
            for (int q = 0; q <= 63; q++) {
                boolean has = q >= span / 100 && q <= span % 100;
                Due.is("price(0, " + q + ") of " + span, x.price(0, q), has ? Due.MORE + 2 * q + 3 : Due.OUTSIDE);
            }
            Due.is("price(0, -1)", x.price(0, -1), Due.UNKNOWN);
            Due.is("price(0, 64)", x.price(0, 64), Due.UNKNOWN);
        }
    }

    /** "twice its RATE .. (twice the RATE of a STEEP one alone)": even where it counts no times. */
    private static void twiceTheRateOfSteepAlone() {
        fits(true, 2, 1073741823, 0, 0);
        fits(false, 2, 1073741824, 0, 0);
        fits(true, 2, -1073741824, 0, 0);
        fits(false, 2, -1073741825, 0, 0);
        fits(false, 2, MOST, 0, 0);
        fits(false, 2, LEAST, 0, 0);
        for (int kind : new int[] {0, 1, 3, 4}) {
            fits(true, kind, 1073741824, 0, 0);
            fits(true, kind, -1073741825, 0, 0);
            fits(true, kind, MOST, 0, 0);
            fits(true, kind, LEAST, 0, 0);
        }
    }

    /** "so often the RATE (of a STEEP one: twice the RATE) as its KIND tells": though the BASE makes up for it. */
    private static void ratesPartAlone() {
        fits(true, 0, 1073741823, -100, 2);
        fits(false, 0, 1073741824, -100, 2);
        fits(true, 0, -1073741824, 100, 2);
        fits(false, 0, -1073741825, 100, 2);
        fits(true, 0, 34087042, -100, 63);
        fits(false, 0, 34087043, -100, 63);
        fits(true, 0, -34087042, 100, 63);
        fits(false, 0, -34087043, 100, 63);
        fits(true, 2, 17043521, -100, 63);
        fits(false, 2, 17043522, -100, 63);
        fits(true, 2, -17043521, 100, 63);
        fits(false, 2, -17043522, 100, 63);
        fits(true, 3, 1073741823, -100, 6163);
        fits(false, 3, 1073741824, -100, 6163);
        fits(true, 4, -1073741824, 100, 6163);
        fits(false, 4, -1073741825, 100, 6163);
    }

    /** "or the PRICE for it": though the RATE's part fits. */
    private static void priceAlone() {
        fits(true, 0, 1, MOST - 63, 63);
        fits(false, 0, 1, MOST - 62, 63);
        fits(true, 0, -1, LEAST + 63, 63);
        fits(false, 0, -1, LEAST + 62, 63);
        fits(true, 2, 1, MOST - 126, 63);
        fits(false, 2, 1, MOST - 125, 63);
        fits(true, 2, -1, LEAST + 126, 63);
        fits(false, 2, -1, LEAST + 125, 63);
        fits(true, 3, 1, MOST - 10, 1020);
        fits(false, 3, 1, MOST - 9, 1020);
        fits(true, 3, -1, LEAST + 10, 1020);
        fits(false, 3, -1, LEAST + 9, 1020);
        fits(true, 4, MOST, 1, 6263);
        fits(false, 4, MOST, 2, 6263);
        fits(true, 4, LEAST, 0, 6263);
        fits(false, 4, LEAST, -1, 6263);
    }

    private static void flatHasNoRatesPart() {
        for (long rate : new long[] {LEAST, -1, 0, 1, MOST}) {
            for (long base : new long[] {LEAST, -1, 0, 1, MOST}) {
                fits(true, 1, rate, base, 63);
            }
        }
    }

    /** A BEGUN one counts from FIRST on: at FIRST the RATE counts no times, however great it is. */
    private static void begunCountsFromFirst() {
        for (int kind = 3; kind <= 4; kind++) {
            fits(true, kind, MOST, 0, 6363);
            fits(true, kind, MOST, 0, 6263);
            fits(false, kind, MOST, 0, 6163);
            fits(true, kind, LEAST, 0, 6363);
            fits(true, kind, LEAST, 0, 6263);
            fits(false, kind, LEAST, 0, 6163);
            fits(true, kind, 34087042, 0, 63);
            fits(false, kind, 34087043, 0, 63);
        }
        fits(false, 0, MOST, 0, 6363);
        fits(true, 3, MOST, LEAST, 6363);
        fits(true, 3, LEAST, MOST, 6263);
        fits(true, 3, 5, MOST, 6363);
        fits(false, 3, 5, MOST, 6263);
    }

    /** "for any QUANTITY of its SPAN": too great for the last one alone, for all; not for those that it has not. */
    private static void anyQuantityOfTheSpan() {
        fits(false, 0, 1, MOST, 1011);
        fits(false, 0, 1, MOST - 10, 1011);
        fits(true, 0, 1, MOST - 11, 1011);
        fits(true, 0, 1, MOST - 10, 1010);
        fits(true, 0, -1, MOST, 1011);
        fits(true, 0, -1, LEAST + 11, 1011);
        fits(false, 0, -1, LEAST + 10, 1011);
        fits(true, 0, -1, LEAST + 10, 1010);
        fits(false, 0, MOST / 11 + 1, 0, 1011);
        fits(true, 0, MOST / 11 + 1, 0, 1010);
        fits(true, 0, MOST, LEAST, 1);
        fits(true, 0, MOST, LEAST, 101);
        fits(false, 0, MOST, LEAST, 102);
    }

    private static boolean within(long number) {
        return number >= LEAST && number <= MOST;
    }

    private static long times(int kind, int span, int q) {
        return kind == 1 ? 0 : kind == 2 ? 2L * q : kind >= 3 ? q - span / 100 : q;
    }

    private static boolean tooGreat(int kind, long rate, long base, int span) {
        boolean found = kind == 2 && !within(2 * rate);
        for (int q = span / 100; q <= span % 100; q++) {
            long part = times(kind, span, q) * rate;
            long price = part + (kind == 4 ? Math.floorDiv(base, 2L) : base);
            found |= !within(part) || !within(price);
        }
        return found;
    }

    private static void nearTo(int kind, long rate, long base, int span) {
        for (int more = -1; more <= 1; more++) {
            if (within(rate + more) && within(base)) {
                fits(!tooGreat(kind, rate + more, base, span), kind, rate + more, base, span);
            }
            if (within(base + more) && within(rate)) {
                fits(!tooGreat(kind, rate, base + more, span), kind, rate, base + more, span);
            }
        }
    }

    /** All kinds and many spans, one step to each side of every limit, against the sentence itself. */
    private static void allKindsNearTheLimits() {
        for (int kind = 0; kind < 5; kind++) {
            for (int span : SPANS) {
                long atLast = times(kind, span, span % 100);
                long atFirst = times(kind, span, span / 100);
                for (long limit : new long[] {LEAST, MOST}) {
                    nearTo(kind, limit / Math.max(1, atLast), 0, span);
                    nearTo(kind, limit / Math.max(1, atFirst), 0, span);
                    nearTo(kind, limit / 2, 0, span);
                    for (long rate : new long[] {-1000, -1, 0, 1, 1000}) {
                        nearTo(kind, rate, limit - atLast * rate, span);
                        nearTo(kind, rate, limit - atFirst * rate, span);
                        nearTo(kind, rate, limit, span);
                    }
                    for (long base : new long[] {-1000, 1000, MOST / 2}) {
                        nearTo(kind, (limit - base) / Math.max(1, atLast), base, span);
                        nearTo(kind, (limit - base) / Math.max(1, atFirst), base, span);
                    }
                }
            }
        }
    }

    /** "told as 3000000000 more": never to be taken for a refusal or for NONE. */
    private static void pricesAtTheLimitsAreTold() {
        TariffDesk x = empty().object();
        x.offer(0, 34087042, 1, 63);
        Due.is("the greatest PRICE", x.price(0, 63), 5147483647L);
        Due.is("the greatest cost", x.cost(63), 5147483647L);
        x.offer(0, -34087042, -2, 63);
        Due.is("the least PRICE", x.price(1, 63), 852516352L);
        Due.is("the least cost", x.cost(63), 852516352L);
        Due.is("the bargain", x.bargain(0, 63), 63);
        // 2147483647 and -2147483648 are compared as they are: their difference does not fit an int
        Due.is("the least is BETTER", x.crossing(0, 1), 0);
        Due.is("the greatest is not", x.crossing(1, 0), Due.NONE);
        x.offer(1, 0, Integer.MAX_VALUE, 63);
        Due.is("not CHEAPEST", x.tariff(2, 4), 0);
        x.offer(1, 0, Integer.MIN_VALUE, 63);
        Due.is("CHEAPEST, but for the like one at 63", x.tariff(3, 4), 63);
        Due.is("like PRICES at 63", x.cheapest(63), 1);
        Due.is("would not be CHEAPEST", x.would(1, 0, Integer.MIN_VALUE, 63), 0);
    }
}
