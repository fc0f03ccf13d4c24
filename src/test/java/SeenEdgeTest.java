import java.math.BigInteger;

/** SEEN, SORTS and ASK where there are none or like ones, and the DRAWS: promises 6 and 18 to 20. */
public final class SeenEdgeTest {
    private static final int MIN = Integer.MIN_VALUE, MAX = Integer.MAX_VALUE;

    public static void main(String[] args) {
        sixAtMost();
        forgetOfNoneAndOfAll();
        ofItsSpanOrNot();
        nothingSeenOfIt();
        itsOwnKindDoesNotMatter();
        allThatIsSeenIsSo();
        pricesHoweverGreat();
        asksAsTheSentenceSays();
        asksOfLikeOnes();
        asksWhereNoneOrOneIsLeft();
        undoAndDeskAndWhatIsSeen();
        seedsAreDrawn();
        timesSeedAndWhat();
        lastIsDrawnFromFirstOn();
        drawnAmongForty();
        drawnChangesNothing();
        Due.end();
    }

    private static Run empty() {
        return Run.ofDesk("f+0+00@0000").then(Call.undo());
    }

    /** "SEEN (6 at most)" */
    private static void sixAtMost() {
        TariffDesk x = Due.desk("t+3+20@1020,f+3+20@1020");
        for (int n = 1; n <= 6; n++) {
            Due.is("see() no. " + n, x.see(n % 2, n, n), n);
            Due.is("SEEN", x.count(5), n);
        }
        long before = x.digest();
        Due.is("see() no. 7", x.see(0, 0, 0), Due.FULL);
        Due.is("see() no. 7 of the other one", x.see(1, 63, MAX), Due.FULL);
        Due.is("SEEN", x.count(5), 6);
        Due.is("nothing is changed", x.digest(), before);
        Due.is("forget()", x.forget(), 6);
        Due.is("see() no. 1", x.see(0, 0, 0), 1);
        // the same twice counts twice
        Due.is("see() no. 2", x.see(0, 0, 0), 2);
    }

    private static void forgetOfNoneAndOfAll() {
        Due.is("forget() of a new object", new TariffDesk().forget(), 0);
        for (int n = 0; n <= 6; n++) {
            TariffDesk x = Due.desk("t+3+20@1020");
            for (int i = 0; i < n; i++) {
                x.see(0, i, 7);
            }
            Due.is("forget() of " + n, x.forget(), n);
            Due.is("SORTS then", x.tariff(0, 5), 31);
            Due.is("SEEN then", x.count(5), 0);
            Due.is("forget() again", x.forget(), 0);
        }
    }

    private static long as(int kind, long rate, long base, int first, int q) {
        switch (kind) {
            case 0: return q * rate + base;
            case 1: return base;
            case 2: return q * 2L * rate + base;
            case 3: return (q - first) * rate + base;
            default: return (q - first) * rate + Math.floorDiv(base, 2L);
        }
    }

    /** "its PRICE for a QUANTITY (of its SPAN or not)" */
    private static void ofItsSpanOrNot() {
        for (int q = 0; q < 64; q++) {
            for (int kind = 0; kind < 5; kind++) {
                TariffDesk x = Due.desk("t+3+21@1020");
                int price = (int) as(kind, 3, 21, 10, q);
                Due.is("see()", x.see(0, q, price), 1);
                int sorts = 0;
                for (int other = 0; other < 5; other++) {
                    sorts += as(other, 3, 21, 10, q) == price ? 1 << other : 0;
                }
                Due.is("SORTS by " + price + " for " + q, x.tariff(0, 5), sorts);
                x.see(0, q, price + 1);
                Due.is("no SORTS by two PRICES for one QUANTITY", x.tariff(0, 5), 0);
            }
        }
        TariffDesk x = Due.desk("t+3+21@1020");
        Due.is("see() for -1", x.see(0, -1, 0), Due.UNKNOWN);
        Due.is("see() for 64", x.see(0, 64, 0), Due.UNKNOWN);
        Due.is("see() of one too many", x.see(1, 0, 0), Due.UNKNOWN);
        Due.is("see() of one too few", x.see(-1, 0, 0), Due.UNKNOWN);
        Due.is("SEEN", x.count(5), 0);
    }

    private static void nothingSeenOfIt() {
        TariffDesk x = Due.desk("t+3+21@1020,f+3+21@1020");
        x.see(0, 10, 999);
        Due.is("SORTS of that one", x.tariff(0, 5), 0);
        Due.is("SORTS of the other one", x.tariff(1, 5), 31);
        Due.is("ASK of that one", x.tariff(0, 6), Due.NONE);
        Due.that("ASK of the other one", x.tariff(1, 6) >= 10);
    }

    /** "RATE, BASE, SPAN as they are": the KIND that it was OFFERED as is not asked for. */
    private static void itsOwnKindDoesNotMatter() {
        for (char kind : "tfsbo".toCharArray()) {
            TariffDesk x = Due.desk(kind + "+3+21@1020");
            x.see(0, 12, 57);
            Due.is("plain, told " + kind, x.tariff(0, 5), 1);
            x.forget();
            x.see(0, 12, 21);
            Due.is("FLAT, told " + kind, x.tariff(0, 5), 2);
            x.forget();
            x.see(0, 12, 93);
            Due.is("STEEP, told " + kind, x.tariff(0, 5), 4);
            x.forget();
            x.see(0, 12, 27);
            Due.is("BEGUN, told " + kind, x.tariff(0, 5), 8);
            x.forget();
            x.see(0, 12, 16);
            Due.is("SALE, told " + kind, x.tariff(0, 5), 16);
            Due.is("its KIND stays", x.tariff(0, 0), "tfsbo".indexOf(kind));
        }
    }

    /** "so that all that is SEEN of it is so": the first, the last, one between. */
    private static void allThatIsSeenIsSo() {
        for (int wrong = -1; wrong < 6; wrong++) {
            TariffDesk x = Due.desk("t+3+21@1020");
            for (int i = 0; i < 6; i++) {
                x.see(0, 10 + i, 21 + 3 * i + (i == wrong ? 1 : 0));
            }
            Due.is("SORTS, no. " + wrong + " is wrong", x.tariff(0, 5), wrong == -1 ? 8 : 0);
        }
    }

    /** "(PRICES as they are, however great)": no wrap-around makes two PRICES like. */
    private static void pricesHoweverGreat() {
        int[] rates = {MIN, MIN + 1, -(1 << 30), 1 << 30, (1 << 30) + 1, MAX - 1, MAX};
        int[] bases = {MIN, -2, -1, 0, 1, 2, MAX};
        for (int rate : rates) {
            for (int base : bases) {
                for (int q : new int[] {0, 1, 2, 4, 30, 32, 62, 63}) {
                    TariffDesk x = empty().then(Call.offer(1, rate, base, 3233)).object();
                    long steep = as(2, rate, base, 32, q);
                    x.see(0, q, (int) steep);
                    int sorts = 0;
                    for (int kind = 0; kind < 5; kind++) {
                        sorts += as(kind, rate, base, 32, q) == (int) steep ? 1 << kind : 0;
                    }
                    Due.is("SORTS of " + rate + ", " + base + " by " + (int) steep + " for " + q, x.tariff(0, 5), sorts);
                    x.forget();
                    Due.is("ASK of " + rate + ", " + base, x.tariff(0, 6), ask(31, rate, base, 32, 33));
                }
            }
        }
    }

    private static int ask(int sorts, long rate, long base, int first, int last) {
        int best = Due.NONE;
        int fewest = 6;
        for (int q = first; q <= last; q++) {
            int worst = 0;
            for (int kind = 0; kind < 5; kind++) {
                int left = 0;
                for (int other = 0; other < 5; other++) {
                    boolean like = as(kind, rate, base, first, q) == as(other, rate, base, first, q);
                    left += like && (sorts >> other) % 2 == 1 ? 1 : 0;
                }
                worst = (sorts >> kind) % 2 == 1 ? Math.max(worst, left) : worst;
            }
            if (worst > 0 && worst < fewest) {
                fewest = worst;
                best = q;
            }
        }
        return best;
    }

    /** "for which QUANTITY of its SPAN to ask for the PRICE next, so that fewest of these are left at worst" */
    private static void asksAsTheSentenceSays() {
        int[] bases = {-99, -20, -10, -1, 0, 1, 2, 7, 10, 36, 98};
        int[][] spans = {{0, 63}, {0, 0}, {0, 1}, {1, 1}, {1, 2}, {5, 20}, {31, 33}, {62, 63}, {63, 63}};
        for (int rate = -9; rate <= 9; rate++) {
            for (int base : bases) {
                for (int[] span : spans) {
                    Run run = empty().then(Call.offer(1, rate, base, 100 * span[0] + span[1]));
                    String name = "ASK of " + rate + ", " + base + ", " + span[0] + " to " + span[1];
                    Due.is(name, run.object().tariff(0, 6), ask(31, rate, base, span[0], span[1]));
                    for (int kind = 0; kind < 5; kind++) {
                        TariffDesk x = run.then(Call.see(0, span[0], (int) as(kind, rate, base, span[0], span[0]))).object();
                        Due.is(name, x.tariff(0, 6), ask(x.tariff(0, 5), rate, base, span[0], span[1]));
                    }
                }
            }
        }
    }

    /** "of like ones the least" */
    private static void asksOfLikeOnes() {
        Due.is("all five are alike all over", Due.desk("t+0+00@1020").tariff(0, 6), 10);
        Due.is("one differs all over", Due.desk("t+0+50@1020").tariff(0, 6), 10);
        // at 0 four are alike; from 1 on plain and BEGUN alone
        Due.is("1 is better than 0, 2 is like 1", Due.desk("t+1+50@0063").tariff(0, 6), 1);
        // at 1 FLAT and BEGUN are alike, from 2 on none
        Due.is("2 is better than 1, 3 is like 2", Due.desk("t+1+50@0163").tariff(0, 6), 2);
        // 1 alone is in its SPAN
        Due.is("1 is all there is", Due.desk("t+1+50@0101").tariff(0, 6), 1);
    }

    /** "none, if there are none" */
    private static void asksWhereNoneOrOneIsLeft() {
        TariffDesk x = Due.desk("t+1+50@0163");
        x.see(0, 9, 50);
        Due.is("one SORT is left", x.tariff(0, 5), 2);
        Due.is("any QUANTITY tells it: the least", x.tariff(0, 6), 1);
        x.see(0, 8, 51);
        Due.is("none is left", x.tariff(0, 5), 0);
        Due.is("ASK of none", x.tariff(0, 6), Due.NONE);
        x.forget();
        Due.is("ASK of all", x.tariff(0, 6), 2);
    }

    private static void undoAndDeskAndWhatIsSeen() {
        TariffDesk x = Due.desk("t+1+50@0163,t+1+50@0163");
        x.see(1, 9, 50);
        x.undo();
        Due.is("undo() takes back the offer alone", x.count(5), 1);
        Due.is("see() of the one that is gone", x.see(1, 9, 50), Due.UNKNOWN);
        Due.is("the one before it is not touched", x.tariff(0, 5), 31);
        Due.typed(x, "t+1+50@0163");
        x.desk();
        Due.is("with another DESK nothing is SEEN", x.count(5), 0);
    }

    private static BigInteger next(BigInteger seed) {
        return seed.multiply(BigInteger.valueOf(1103515245L)).add(BigInteger.valueOf(12345L)).mod(BigInteger.TWO.pow(31));
    }

    /** "1103515245 times it and 12345, its rest by 2 to the 31" */
    private static void seedsAreDrawn() {
        Due.is("five times from 0", empty().object().drawn(1, 0, 2), 229283573);
        for (int seed : new int[] {0, 1, 2, 65535, 65536, 1 << 30, MAX - 1, MAX}) {
            BigInteger due = BigInteger.valueOf(seed);
            for (int times = 1; times <= 30; times++) {
                for (int i = 0; i < 5; i++) {
                    due = next(due);
                }
                Due.is("drawn(" + times + ", " + seed + ", 2)", empty().object().drawn(times, seed, 2), due.longValue());
            }
        }
    }

    /** "OUTSIDE: times (1 to 30), seed (0 at least), what" */
    private static void timesSeedAndWhat() {
        TariffDesk x = empty().object();
        for (int times = -2; times <= 33; times++) {
            boolean fine = times >= 1 && times <= 30;
            Due.that("drawn(" + times + ", 5, 0)", fine ? x.drawn(times, 5, 0) > 0 : x.drawn(times, 5, 0) == Due.OUTSIDE);
        }
        for (int what = -2; what <= 5; what++) {
            boolean fine = what >= 0 && what <= 2;
            Due.that("drawn(1, 5, " + what + ")", fine ? x.drawn(1, 5, what) > 0 : x.drawn(1, 5, what) == Due.OUTSIDE);
        }
        Due.is("drawn(1, -1, 2)", x.drawn(1, -1, 2), Due.OUTSIDE);
        Due.that("drawn(1, 0, 2)", x.drawn(1, 0, 2) > 0);
        Due.is("drawn(1, MIN, 2)", x.drawn(1, MIN, 2), Due.OUTSIDE);
        Due.that("drawn(1, MAX, 2)", x.drawn(1, MAX, 2) > 0);
    }

    private static int draw(BigInteger seed, int of) {
        return seed.divide(BigInteger.valueOf(65536)).mod(BigInteger.valueOf(of)).intValue();
    }

    /** "LAST FIRST and a DRAW of as many as there are from it on": of 63 one alone, and that is drawn, too. */
    private static void lastIsDrawnFromFirstOn() {
        boolean[] met = new boolean[64];
        for (int from = 0; from < 600; from++) {
            BigInteger seed = next(next(next(next(BigInteger.valueOf(from)))));
            int first = draw(seed, 64);
            int many = 1 + draw(next(seed), 64 - first);
            met[first] = true;
            TariffDesk x = empty().object();
            Due.is("FIRST " + first + ": QUANTITIES", x.drawn(1, from, 0), many);
            Due.is("FIRST " + first + ": the SEED then", x.drawn(1, from, 2), next(seed).longValue());
            TariffDesk y = empty().object();
            Due.is("NODES", x.drawn(1, from, 1), y.offer(0, 1, 1, 100 * first + first + many - 1));
        }
        Due.that("FIRST 0 and 63 were drawn", met[0] && met[63]);
    }

    /** "(how many were OFFERED before does not matter)" */
    private static void drawnAmongForty() {
        Run forty = empty();
        for (int t = 0; t < 40; t++) {
            forty = forty.then(Call.offer(1, 0, 1000000 + t, 63));
        }
        for (int seed = 0; seed < 50; seed++) {
            // those before are all dearer, and STAND at NODE 1 alone
            for (int what = 0; what <= 2; what++) {
                String call = "drawn(30, " + seed + ", " + what + ")";
                Due.is(call + " among 40", forty.object().drawn(30, seed, what), empty().object().drawn(30, seed, what));
            }
        }
        Run cheap = empty();
        for (int t = 0; t < 40; t++) {
            cheap = cheap.then(Call.offer(1, 0, -1000000 + t, 63));
        }
        Due.is("those before are all cheaper", cheap.object().drawn(30, 5, 0), 0);
        Due.is("without a DESK", new TariffDesk().drawn(30, 5, 0), Due.STATE);
    }

    private static void drawnChangesNothing() {
        Run run = Run.ofDesk("t+1+00@0063,t-1+62@0063,f+0+31@1050").then(Call.see(0, 1, 1), Call.image(),
                Call.offer(2, -1, 5, 2063)).typed("t+");
        for (int what = 0; what <= 2; what++) {
            TariffDesk x = run.object();
            int told = x.drawn(30, 77, what);
            Due.is("the same once more", x.drawn(30, 77, what), told);
            Due.that("nothing is changed", Run.usedUp(x).equals(Run.usedUp(run.object())));
        }
    }
}
