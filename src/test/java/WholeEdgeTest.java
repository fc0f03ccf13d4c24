import java.math.BigInteger;
import java.util.ArrayList;
import java.util.List;

/** An IMAGE of none, of all, of another DESK; what is counted; digest(); the 512th call: promises 21 to 24. */
public final class WholeEdgeTest {
    private static final String ONE = "f+0+00@0063";
    private static final String FOUR = "t+1+00@0063,f-0+30@1050,s-1+40@2040,o+2-09@3063";

    public static void main(String[] args) {
        imageNeedsADesk();
        imageOfNone();
        imageOfAll();
        theLatestImage();
        whatAnImageKeeps();
        whatAnImageDoesNotKeep();
        anotherDeskSince();
        countsWithAndWithoutADesk();
        countsAtTheirMost();
        tariffsCheapestForNone();
        digestOfNothing();
        digestOfThePage();
        digestOfADeskWithNone();
        digestOfADeskOfOne();
        digestWraps();
        upToThe512thCall();
        Due.end();
    }

    private static Run empty() {
        return Run.ofDesk(ONE).then(Call.undo());
    }

    private static Run forty() {
        Run run = Run.ofDesk(FOUR);
        for (int t = 4; t < 40; t++) {
            run = run.then(Call.offer(t % 5, t * 7 % 11 - 5, t * 13 % 61 - 30, 100 * (t * 5 % 32) + 63 - t * 3 % 32));
        }
        return run;
    }

    /** "STATE: no DESK"; "STATE: none was kept" */
    private static void imageNeedsADesk() {
        TariffDesk x = Due.typed(new TariffDesk(), ONE);
        Due.is("image() without a DESK", x.image(), Due.STATE);
        Due.is("restore() without a DESK", x.restore(), Due.STATE);
        x.desk();
        Due.is("restore(), none was kept", x.restore(), Due.STATE);
        Due.is("image()", x.image(), 1);
        Due.is("restore()", x.restore(), 1);
    }

    private static void imageOfNone() {
        TariffDesk x = empty().object();
        Due.is("image() of none", x.image(), 0);
        x.offer(1, 0, 5, 63);
        x.see(0, 0, 0);
        Due.is("restore() of none", x.restore(), 0);
        Due.is("as it was", x.digest(), empty().object().digest());
        Due.is("nothing to UNDO", x.undo(), Due.STATE);
        Due.is("see() of what is gone", x.see(0, 0, 0), Due.UNKNOWN);
        Due.is("the number 0 again", x.offer(1, 0, 5, 63) + x.cheapest(63), 1);
    }

    private static void imageOfAll() {
        TariffDesk x = forty().object();
        Due.is("image() of 40", x.image(), 40);
        for (int t = 39; t >= 0; t--) {
            Due.is("undo()", x.undo(), t);
        }
        Due.is("restore() of 40", x.restore(), 40);
        Due.is("as it was", x.digest(), forty().object().digest());
        Due.is("FULL", x.offer(1, 0, 5, 63), Due.FULL);
        Due.is("undo()", x.undo(), 39);
        Due.that("one more", x.offer(1, 0, 5, 63) >= 0);
        Due.is("FULL", x.offer(1, 0, 5, 63), Due.FULL);
    }

    /** "An IMAGE is kept (one; the latest)" */
    private static void theLatestImage() {
        TariffDesk x = Due.desk(FOUR);
        Due.is("image() of 4", x.image(), 4);
        x.undo();
        Due.is("image() of 3", x.image(), 3);
        x.undo();
        Due.is("restore() of 3", x.restore(), 3);
        Due.is("restore() of 3 again", x.restore(), 3);
        x.offer(1, 0, -5, 63);
        Due.is("restore(), what came later is gone", x.restore(), 3);
        Due.is("as it was", x.digest(), Run.ofDesk(FOUR).then(Call.undo()).object().digest());
    }

    /** "An IMAGE keeps all TARIFFS, what STANDS, what can be UNDONE, SEEN." */
    private static void whatAnImageKeeps() {
        Run kept = forty().then(Call.see(0, 1, 1), Call.see(39, 63, -7), Call.undo(), Call.undo());
        Run[] later = {kept.then(Call.image()), kept.then(Call.image(), Call.undo()),
            kept.then(Call.image(), Call.offer(1, 0, -999, 63), Call.offer(0, 5, -99, 163)),
            kept.then(Call.image(), Call.forget()), kept.then(Call.image(), Call.see(1, 1, 1), Call.see(2, 2, 2)),
            kept.then(Call.image(), Call.undo(), Call.undo(), Call.offer(1, 0, -999, 63), Call.forget())};
        for (Run run : later) {
            TariffDesk x = run.object();
            Due.is("restore()", x.restore(), 38);
            Due.that("all is as it was", Run.usedUp(x).equals(Run.usedUp(kept.then(Call.image()).object())));
        }
    }

    private static void whatAnImageDoesNotKeep() {
        TariffDesk x = Due.desk(ONE);
        Due.typed(x, "t+1");
        x.image();
        x.blank();
        Due.typed(x, "b-2+3");
        x.restore();
        Due.is("THE PAGE stays", x.count(6), 5);
        Due.is("its letters too", x.fault(), 5);
        x.blank();
        Due.typed(x, ONE);
        x.desk();
        Due.is("image() of another DESK", x.image(), 1);
        Due.is("restore()", x.restore(), 1);
        Due.is("how often a DESK was read stays", x.count(7), 2);
    }

    /** "or there is another DESK since" */
    private static void anotherDeskSince() {
        TariffDesk x = Due.desk(FOUR);
        x.image();
        Due.typed(x, ONE + ",");
        Due.is("no DESK", x.desk(), Due.STATE);
        Due.is("restore()", x.restore(), 4);
        x.blank();
        Due.typed(x, FOUR);
        Due.is("another DESK, though of the same text", x.desk(), 4);
        Due.is("restore()", x.restore(), Due.STATE);
        Due.is("restore() changes nothing", x.count(0), 4);
        x.image();
        Due.is("restore()", x.restore(), 4);
    }

    private static void counts(String name, TariffDesk x, int... due) {
        for (int what = 0; what < 8; what++) {
            Due.is(name + ": count(" + what + ")", x.count(what), due[what]);
        }
        Due.is(name + ": count(-1)", x.count(-1), Due.OUTSIDE);
        Due.is(name + ": count(8)", x.count(8), Due.OUTSIDE);
    }

    private static void countsWithAndWithoutADesk() {
        counts("a new object", new TariffDesk(), 0, 0, 0, 0, 0, 0, 0, 0);
        counts("a DESK typed", Due.typed(new TariffDesk(), ONE), 0, 0, 0, 0, 0, 0, 11, 0);
        counts("a DESK with none", empty().object(), 0, 0, 0, 64, 0, 0, 0, 1);
        counts("a DESK of one", Due.desk(ONE), 1, 1, 1, 0, 0, 0, 0, 1);
        counts("a DESK of one QUANTITY", Due.desk("f+0+00@6363"), 1, 1, 1, 63, 0, 0, 0, 1);
    }

    private static void countsAtTheirMost() {
        Run run = empty();
        for (int t = 0; t < 40; t++) {
            run = run.then(Call.offer(1, 0, 5, 101 * t));
        }
        for (int i = 0; i < 6; i++) {
            run = run.then(Call.see(i, i, i));
        }
        TariffDesk x = run.typed("#".repeat(50)).object();
        counts("as many as can be", x, 40, 40, 40, 24, 0, 6, 50, 1);
        x = new TariffDesk();
        for (int n = 1; n <= 39; n++) {
            Due.is("desk()", Due.typed(x, "f+0+00@6363").desk(), 1);
            Due.is("how often a DESK was read", x.count(7), n);
        }
    }

    private static void tariffsCheapestForNone() {
        TariffDesk x = Due.desk(ONE);
        Due.is("none", x.count(4), 0);
        x.offer(1, 0, 0, 63);
        Due.is("a like one", x.count(4), 1);
        x.offer(1, 0, -1, 62);
        Due.is("0 is left at 63", x.count(4), 1);
        x.offer(1, 0, -1, 6363);
        Due.is("and there no more", x.count(4), 2);
        x.undo();
        Due.is("after undo()", x.count(4), 1);
    }

    private static long mixed(List<Long> numbers) {
        BigInteger h = BigInteger.valueOf(1361);
        for (long number : numbers) {
            h = h.multiply(BigInteger.valueOf(31)).add(BigInteger.valueOf(number));
        }
        return h.longValue();
    }

    private static List<Long> list(long... numbers) {
        List<Long> made = new ArrayList<>();
        for (long number : numbers) {
            made.add(number);
        }
        return made;
    }

    private static void digestOfNothing() {
        Due.is("digest() of a new object", new TariffDesk().digest(), mixed(list(0, 0, 0, 0, 0, 0, 0, 0)));
    }

    /** "letters of THE PAGE" */
    private static void digestOfThePage() {
        TariffDesk x = Due.typed(new TariffDesk(), " ~");
        Due.is("digest() of two letters", x.digest(), mixed(list(32, 126, 0, 0, 0, 0, 0, 0, 2, 0)));
        x.blank();
        Due.is("digest() after blank()", x.digest(), mixed(list(0, 0, 0, 0, 0, 0, 0, 0)));
        Due.typed(x, "~ ");
        Due.is("the order counts", x.digest(), mixed(list(126, 32, 0, 0, 0, 0, 0, 0, 2, 0)));
    }

    private static void digestOfADeskWithNone() {
        List<Long> due = list();
        for (int i = 0; i < 2 * 64 + 127 + 1; i++) {
            due.add(-1L);
        }
        due.addAll(list(0, 0, 0, 64, 0, 0, 0, 1));
        Due.is("digest() of a DESK with none", empty().object().digest(), mixed(due));
    }

    private static void digestOfADeskOfOne() {
        // KIND, FIRST, LAST, NODES, QUANTITIES, SORTS, ASK
        List<Long> due = list(3, 0, 1, 1, 2, 31, 1);
        due.addAll(list(0, 3000000005L, 0, 3000000004L));
        for (int i = 0; i < 2 * 62; i++) {
            due.add(-1L);
        }
        for (int n = 1; n <= 127; n++) {
            due.add(n == 32 ? 0L : -1L);
        }
        due.addAll(list(1, 'o', 1, 1, 1, 62, 0, 0, 1, 1));
        Due.is("digest() of a DESK of one", Due.typed(Due.desk("b-1+05@0001"), "o").digest(), mixed(due));
    }

    /** "(as longs, wrapping)" */
    private static void digestWraps() {
        StringBuilder page = new StringBuilder();
        TariffDesk x = new TariffDesk();
        for (int n = 1; n <= 50; n++) {
            page.append('~');
            x.letter('~');
            List<Long> due = list();
            page.chars().forEach(c -> due.add((long) c));
            due.addAll(list(0, 0, 0, 0, 0, 0, n, 0));
            Due.is("digest() of " + n + " letters", x.digest(), mixed(due));
        }
    }

    /** "An object is used for at most 512 calls": up to the last one it answers as on the first day. */
    private static void upToThe512thCall() {
        Run[] starts = {Run.ofNew(), Run.ofDesk(ONE), forty().then(Call.image())};
        Call[][] again = {
            {Call.offer(0, -1, 40, 162), Call.undo()},
            {Call.undo(), Call.offer(0, 1, -40, 162), Call.offer(2, 1, -90, 163)},
            {Call.drawn(30, Integer.MAX_VALUE, 0), Call.drawn(30, 1, 1)},
            {Call.image(), Call.restore(), Call.undo()},
            {Call.restore()},
            {Call.letter('t'), Call.letter('~'), Call.blank()},
            {Call.see(0, 0, 0), Call.see(0, 1, 1), Call.tariff(0, 6), Call.forget()},
        };
        for (Run start : starts) {
            for (Call[] calls : again) {
                Run run = start;
                for (int i = 0; run.length() < Run.MOST_CALLS - 1; i++) {
                    run = run.then(calls[i % calls.length]);
                }
                run.then(Call.digest()).isAsModelled("up to the last call");
            }
        }
        Run desks = Run.ofNew();
        while (desks.length() + 12 < Run.MOST_CALLS) {
            desks = desks.typed("o+9-99@1020").then(Call.desk());
        }
        desks.then(Call.digest()).isAsModelled("a DESK again and again");
    }
}
