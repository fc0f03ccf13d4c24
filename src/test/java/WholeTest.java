/** Promises 21 to 24: image, restore, count, digest. */
public final class WholeTest {
    private static final String TWO = "t+1+00@0063,t-1+62@1040";

    public static void main(String[] args) {
        promises21And22();
        imageOfForty();
        promise23();
        promise24();
        Due.end();
    }

    private static void promises21And22() {
        TariffDesk x = Due.desk(TWO);
        Due.is("restore() ahead of image()", x.restore(), Due.STATE);
        x.see(1, 5, 57);
        x.offer(2, -1, 9, 2050);
        x.offer(4, 1, 9, 6063);
        String kept = Due.state(x);
        Due.is("image()", x.image(), 4);
        Due.that("image() changes nothing", kept.equals(Due.state(x)));
        x.undo();
        String atThree = Due.state(x);
        x.undo();
        x.undo();
        x.offer(1, 0, -99, 163);
        x.see(0, 1, 1);
        x.see(0, 2, 2);
        Due.is("restore()", x.restore(), 4);
        Due.that("all is as it was", kept.equals(Due.state(x)));
        Due.is("what could be UNDONE can be", x.undo(), 3);
        Due.that("and is as before it was OFFERED", atThree.equals(Due.state(x)));
        x.forget();
        Due.is("restore() again", x.restore(), 4);
        Due.that("all is as it was, again", kept.equals(Due.state(x)));
        while (x.undo() >= 0) {
            x.forget();
        }
        Due.is("image() of a DESK with none left", x.image(), 0);
        x.offer(0, 1, 1, 63);
        Due.is("one is CHEAPEST", x.cheapest(0), 0);
        Due.is("the latest one counts", x.restore(), 0);
        Due.is("none is CHEAPEST", x.cheapest(0), Due.NONE);
        Due.is("nothing STANDS", x.count(1), 0);
        Due.is("nothing to UNDO", x.undo(), Due.STATE);

        Due.typed(x, "f+0+01@0000");
        Due.is("THE PAGE is not of the IMAGE", x.restore() + x.count(6), 11);
        Due.is("desk()", x.desk(), 1);
        Due.is("another DESK since", x.restore(), Due.STATE);
        Due.is("image() of that", x.image(), 1);
        Due.is("restore() of that", x.restore(), 1);
        Due.typed(x, "f+0+01@000");
        Due.is("a page that is no DESK", x.desk(), Due.STATE);
        Due.is("is not another DESK", x.restore(), 1);
        Due.is("how often a DESK was read is not of the IMAGE", x.count(7), 2);
    }

    private static void imageOfForty() {
        TariffDesk x = Due.desk("f+0+01@0000");
        for (int t = 1; t < 40; t++) {
            x.offer(t % 5, t % 7 - 3, -t, 100 * t + 63);
        }
        long kept = x.digest();
        Due.is("image() of 40", x.image(), 40);
        while (x.undo() >= 0) {
            x.forget();
        }
        Due.is("restore() of 40", x.restore(), 40);
        Due.is("all 40 are as they were", x.digest(), kept);
        Due.is("still FULL", x.offer(0, 1, 1, 63), Due.FULL);
        for (int i = 0; i < 300; i++) {
            x.restore();
        }
        Due.is("however often", x.digest(), kept);
        Due.is("and undo()", x.undo(), 39);
    }

    private static void counts(TariffDesk x, int... due) {
        for (int what = 0; what <= 7; what++) {
            Due.is("count(" + what + ")", x.count(what), due[what]);
        }
        Due.is("count(-1)", x.count(-1), Due.OUTSIDE);
        Due.is("count(8)", x.count(8), Due.OUTSIDE);
        Due.is("count(MIN)", x.count(Integer.MIN_VALUE), Due.OUTSIDE);
        Due.is("count(MAX)", x.count(Integer.MAX_VALUE), Due.OUTSIDE);
    }

    private static void promise23() {
        counts(Due.typed(new TariffDesk(), "t+1"), 0, 0, 0, 0, 0, 0, 3, 0);
        // 10 to 15 by 0 (NODES of 10-11, 12-15), 20 by 1, 15 by 2 is dearer: gone
        TariffDesk x = Due.desk("f+0+01@1015,f+0+02@2020,f+0+03@1515,f+0+00@6363");
        x.see(2, 0, 0);
        Due.typed(x, "oo");
        counts(x, 4, 2 + 1 + 1 + 1, 3, 64 - 8, 1, 1, 2, 1);
        x.blank();
        Due.typed(x, "f+0+00@0063");
        x.desk();
        counts(x, 1, 1, 1, 0, 0, 0, 0, 2);
        x.offer(1, 0, -1, 63);
        counts(x, 2, 1, 1, 0, 1, 0, 0, 2);
        x.undo();
        x.undo();
        counts(x, 0, 0, 0, 64, 0, 0, 0, 2);
    }

    /** The digest as the document tells it, by what the other calls answer. */
    private static long digestOf(TariffDesk x, String page) {
        long h = 1361;
        for (int t = 0; t < x.count(0); t++) {
            for (int what = 0; what <= 6; what++) {
                h = 31 * h + x.tariff(t, what);
            }
        }
        if (x.cheapest(0) != Due.UNKNOWN) {
            for (int q = 0; q < 64; q++) {
                h = 31 * h + x.cheapest(q);
                h = 31 * h + x.cost(q);
            }
            for (int n = 1; n <= 127; n++) {
                h = 31 * h + x.node(n, 0);
            }
            h = 31 * h + x.bargain(0, 63);
        }
        for (int i = 0; i < page.length(); i++) {
            h = 31 * h + page.charAt(i);
        }
        for (int what = 0; what <= 7; what++) {
            h = 31 * h + x.count(what);
        }
        return h;
    }

    private static void promise24() {
        TariffDesk x = new TariffDesk();
        Due.typed(x, "t+~");
        Due.is("digest() without a DESK", x.digest(), digestOf(x, "t+~"));
        x = Due.desk(TWO);
        Due.is("digest()", x.digest(), digestOf(x, ""));
        Run run = Run.ofDesk(TWO).then(Call.offer(4, -2, 7, 463), Call.see(1, 3, 59)).typed(" b~");
        x = run.object();
        Due.is("digest()", x.digest(), digestOf(x, " b~"));
        x = run.object();
        Due.is("digest() changes nothing", x.digest(), x.digest());
        x = run.then(Call.undo(), Call.undo(), Call.undo(), Call.forget()).object();
        Due.is("digest() of a DESK with none left", x.digest(), digestOf(x, " b~"));
    }
}
