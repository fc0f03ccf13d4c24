import java.util.ArrayList;
import java.util.List;

/** BETTER for like prices, the NODES at the ends of a SPAN, PUSHED and UNDONE: promises 9 to 11 and "Terms". */
public final class TreeEdgeTest {
    private static final String FLAT_0 = "f+0+00@0063";

    public static void main(String[] args) {
        nodesAndTheirMiddles();
        nodesAreKnownWithoutADesk();
        nodesOfEverySpan();
        nodesStayAmongOthers();
        theNewOneRises();
        theNewOneFalls();
        theOldOneRises();
        theOldOneFalls();
        likeAllOver();
        likeAtOneEnd();
        nodesOfOneAndOfTwo();
        theOneThatLostGoesOnBelow();
        downToOneAlone();
        allLevelsChange();
        deepestPushes();
        undoOfEachOffer();
        undoOfAnOfferThatChangedNothing();
        undoDownToNone();
        Due.end();
    }

    private static Run empty() {
        return Run.ofDesk(FLAT_0).then(Call.undo());
    }

    /** First and last quantity of each node, made from above as the document tells it. */
    private static int[][] bounds() {
        int[][] made = new int[128][];
        made[1] = new int[] {0, 63};
        for (int n = 1; n <= 63; n++) {
            int many = made[n][1] - made[n][0] + 1;
            made[2 * n] = new int[] {made[n][0], made[n][0] + many / 2 - 1};
            made[2 * n + 1] = new int[] {made[n][0] + many / 2, made[n][1]};
        }
        return made;
    }

    /** "Its MIDDLE is the last one of the lower half (of one alone: that)"; "(127 in all)" */
    private static void nodesAndTheirMiddles() {
        TariffDesk x = empty().object();
        int[][] due = bounds();
        for (int n = 1; n <= 127; n++) {
            int middle = n >= 64 ? due[n][0] : due[2 * n][1];
            Due.is("node(" + n + ", 1)", x.node(n, 1), due[n][0]);
            Due.is("node(" + n + ", 2)", x.node(n, 2), due[n][1]);
            Due.is("node(" + n + ", 3)", x.node(n, 3), middle);
        }
        Due.is("the MIDDLE of 0 to 63", x.node(1, 3), 31);
        Due.is("the MIDDLE of 0 to 1", x.node(32, 3), 0);
        Due.is("the MIDDLE of 62 to 63", x.node(63, 3), 62);
        Due.is("the MIDDLE of 0 alone", x.node(64, 3), 0);
        Due.is("the MIDDLE of 63 alone", x.node(127, 3), 63);
    }

    /** "UNKNOWN: node (1 to 127; also without a DESK)": these are known, without a DESK, too. */
    private static void nodesAreKnownWithoutADesk() {
        int[][] due = bounds();
        for (int n = 1; n <= 127; n++) {
            TariffDesk x = new TariffDesk();
            Due.is("node(" + n + ", 0) without a DESK", x.node(n, 0), Due.NONE);
            Due.is("node(" + n + ", 1) without a DESK", x.node(n, 1), due[n][0]);
            Due.is("node(" + n + ", 2) without a DESK", x.node(n, 2), due[n][1]);
        }
        for (int n : new int[] {-1, 0, 128, 129}) {
            Due.is("node(" + n + ", 0) without a DESK", new TariffDesk().node(n, 0), Due.UNKNOWN);
            Due.is("node(" + n + ", 0)", empty().object().node(n, 0), Due.UNKNOWN);
        }
    }

    private static boolean within(int[] node, int first, int last) {
        return node[0] >= first && node[1] <= last;
    }

    /** "into each NODE of which all QUANTITIES are in its SPAN, while not all those of the NODE right above it are" */
    private static void nodesOfEverySpan() {
        int[][] of = bounds();
        for (int first = 0; first < 64; first++) {
            for (int last = first; last < 64; last++) {
                TariffDesk x = empty().object();
                int nodes = x.offer(0, 1, 1, 100 * first + last);
                int due = 0;
                for (int n = 1; n <= 127; n++) {
                    boolean has = within(of[n], first, last) && (n == 1 || !within(of[n / 2], first, last));
                    due += has ? 1 : 0;
                    Due.is(first + " to " + last + ": NODE " + n, x.node(n, 0), has ? 0 : Due.NONE);
                }
                Due.is(first + " to " + last + ": NODES", nodes, due);
                Due.is(first + " to " + last + ": NODES of it", x.tariff(0, 3), due);
                Due.is(first + " to " + last + ": QUANTITIES of it", x.tariff(0, 4), last - first + 1);
                Due.is(first + " to " + last + ": GAPS", x.count(3), 63 - last + first);
            }
        }
    }

    private static void nodesStayAmongOthers() {
        // 0 to 62 is all but one: six NODES; 1 to 63 as well; 0 to 63 is one alone
        TariffDesk x = empty().object();
        Due.is("0 to 62", x.offer(1, 0, 3, 62), 6);
        Due.is("1 to 63, like", x.offer(1, 0, 3, 163), 6);
        int[] low = {2, 6, 14, 30, 62, 126};
        int[] high = {65, 33, 17, 9, 5, 3};
        for (int i = 0; i < 6; i++) {
            Due.is("NODE " + low[i], x.node(low[i], 0), 0);
            Due.is("NODE " + high[i], x.node(high[i], 0), 1);
        }
        Due.is("the one above has none", x.node(1, 0), Due.NONE);
        Due.is("0 to 63, dearer than both, STANDS where none did", x.offer(1, 0, 4, 63), 1);
        Due.is("NODE 1", x.node(1, 0), 2);
        Due.is("CHEAPEST for none", x.tariff(2, 4), 0);
        Due.is("0 to 63, cheaper", x.offer(1, 0, 2, 63), 1);
        Due.is("those below stay", x.node(2, 0), 0);
    }

    /** At most three nodes have one: 1, 2 and 3. */
    private static void stand(String name, TariffDesk x, int at1, int at2, int at3) {
        Due.is(name + ": NODE 1", x.node(1, 0), at1);
        Due.is(name + ": NODE 2", x.node(2, 0), at2);
        Due.is(name + ": NODE 3", x.node(3, 0), at3);
        Due.is(name + ": NODES", x.count(1), 1 + (at2 >= 0 ? 1 : 0) + (at3 >= 0 ? 1 : 0));
    }

    /** q - c against 0: less for q below c, like at c, and the old one has the lesser number. */
    private static void theNewOneRises() {
        for (int c = -2; c <= 66; c++) {
            TariffDesk x = Due.desk(FLAT_0);
            int changed = x.offer(0, 1, -c, 63);
            String name = "a new one, q - " + c;
            if (c <= 0) {
                stand(name, x, 0, Due.NONE, Due.NONE);
                Due.is(name + ": another one STANDS", changed, 0);
            } else if (c <= 31) {
                stand(name, x, 0, 1, Due.NONE);
                Due.is(name + ": another one STANDS", changed, 1);
            } else if (c <= 63) {
                stand(name, x, 1, Due.NONE, 0);
                Due.is(name + ": another one STANDS", changed, 2);
            } else {
                stand(name, x, 1, Due.NONE, Due.NONE);
                Due.is(name + ": another one STANDS", changed, 1);
            }
            for (int q = 0; q < 64; q++) {
                Due.is(name + ": cheapest(" + q + ")", x.cheapest(q), q < c ? 1 : 0);
            }
        }
    }

    /** c - q against 0: less for q above c, like at c. */
    private static void theNewOneFalls() {
        for (int c = -2; c <= 66; c++) {
            TariffDesk x = Due.desk(FLAT_0);
            int changed = x.offer(0, -1, c, 63);
            String name = "a new one, " + c + " - q";
            if (c < 0) {
                stand(name, x, 1, Due.NONE, Due.NONE);
                Due.is(name + ": another one STANDS", changed, 1);
            } else if (c <= 30) {
                stand(name, x, 1, 0, Due.NONE);
                Due.is(name + ": another one STANDS", changed, 2);
            } else if (c <= 62) {
                stand(name, x, 0, Due.NONE, 1);
                Due.is(name + ": another one STANDS", changed, 1);
            } else {
                stand(name, x, 0, Due.NONE, Due.NONE);
                Due.is(name + ": another one STANDS", changed, 0);
            }
            for (int q = 0; q < 64; q++) {
                Due.is(name + ": cheapest(" + q + ")", x.cheapest(q), q > c ? 1 : 0);
            }
        }
    }

    /** The same two the other way round: like at c, the one that rises has the lesser number. */
    private static void theOldOneRises() {
        for (int c = -2; c <= 66; c++) {
            TariffDesk x = empty().then(Call.offer(0, 1, -c, 63)).object();
            int changed = x.offer(1, 0, 0, 63);
            String name = "an old one, q - " + c;
            if (c < 0) {
                stand(name, x, 1, Due.NONE, Due.NONE);
                Due.is(name + ": another one STANDS", changed, 1);
            } else if (c <= 30) {
                stand(name, x, 1, 0, Due.NONE);
                Due.is(name + ": another one STANDS", changed, 2);
            } else if (c <= 62) {
                stand(name, x, 0, Due.NONE, 1);
                Due.is(name + ": another one STANDS", changed, 1);
            } else {
                stand(name, x, 0, Due.NONE, Due.NONE);
                Due.is(name + ": another one STANDS", changed, 0);
            }
            for (int q = 0; q < 64; q++) {
                Due.is(name + ": cheapest(" + q + ")", x.cheapest(q), q <= c ? 0 : 1);
            }
        }
    }

    private static void theOldOneFalls() {
        for (int c = -2; c <= 66; c++) {
            TariffDesk x = empty().then(Call.offer(0, -1, c, 63)).object();
            int changed = x.offer(1, 0, 0, 63);
            String name = "an old one, " + c + " - q";
            if (c <= 0) {
                stand(name, x, 0, Due.NONE, Due.NONE);
                Due.is(name + ": another one STANDS", changed, 0);
            } else if (c <= 31) {
                stand(name, x, 0, 1, Due.NONE);
                Due.is(name + ": another one STANDS", changed, 1);
            } else if (c <= 63) {
                stand(name, x, 1, Due.NONE, 0);
                Due.is(name + ": another one STANDS", changed, 2);
            } else {
                stand(name, x, 1, Due.NONE, Due.NONE);
                Due.is(name + ": another one STANDS", changed, 1);
            }
            for (int q = 0; q < 64; q++) {
                Due.is(name + ": cheapest(" + q + ")", x.cheapest(q), q >= c ? 0 : 1);
            }
        }
    }

    /** "of like ones the one of the lesser number" */
    private static void likeAllOver() {
        // five kinds that cost the same all over 0 to 63: RATE 0, and a SALE of twice the BASE
        TariffDesk x = empty().object();
        Due.is("the first one", x.offer(4, 0, 15, 63), 1);
        for (int kind = 0; kind <= 3; kind++) {
            Due.is("a like one of KIND " + kind, x.offer(kind, 0, 7, 63), 0);
            Due.is("it STANDS nowhere", x.tariff(kind + 1, 3), 0);
            Due.is("it would be CHEAPEST for none", x.would(kind, 0, 7, 63), 0);
        }
        Due.is("the first one is CHEAPEST", x.tariff(0, 4), 64);
        Due.is("one less takes the place", x.offer(1, 0, 6, 63), 1);
        Due.is("the one before is gone", x.tariff(0, 3), 0);
        Due.is("undo()", x.undo(), 5);
        Due.is("the first one again, not a like one", x.node(1, 0), 0);
    }

    /** Like at the first or the last QUANTITY of a NODE alone: the lesser number is BETTER there and goes on. */
    private static void likeAtOneEnd() {
        TariffDesk x = Due.desk(FLAT_0);
        Due.is("the new one is less but at 0, like there", x.offer(0, -1, 0, 63), 2);
        stand("like at 0", x, 1, 0, Due.NONE);
        x = Due.desk(FLAT_0);
        Due.is("the new one is less but at 63, like there", x.offer(0, 1, -63, 63), 2);
        stand("like at 63", x, 1, Due.NONE, 0);
        x = Due.desk(FLAT_0);
        Due.is("the new one is more but at 0, like there", x.offer(0, 1, 0, 63), 0);
        stand("like at 0", x, 0, Due.NONE, Due.NONE);
        x = Due.desk(FLAT_0);
        Due.is("the new one is more but at 63, like there", x.offer(0, -1, 63, 63), 0);
        stand("like at 63", x, 0, Due.NONE, Due.NONE);
    }

    private static void nodesOfOneAndOfTwo() {
        for (int q = 0; q < 64; q++) {
            TariffDesk x = empty().then(Call.offer(1, 0, 5, 101 * q)).object();
            Due.is("a like one", x.offer(1, 0, 5, 101 * q), 0);
            Due.is("a dearer one", x.offer(1, 0, 6, 101 * q), 0);
            Due.is("a cheaper one", x.offer(1, 0, 4, 101 * q), 1);
            Due.is("NODE of " + q, x.node(64 + q, 0), 3);
            Due.is("NODES", x.count(1), 1);
            Due.is("CHEAPEST", x.cheapest(q), 3);
        }
        // 0 to 1 has the MIDDLE 0: who is cheaper there STANDS, the other one goes on to 1
        TariffDesk x = empty().then(Call.offer(0, 0, 5, 1)).object();
        Due.is("cheaper at 0, dearer at 1", x.offer(0, 2, 4, 1), 2);
        Due.is("NODE 32", x.node(32, 0), 1);
        Due.is("NODE 64", x.node(64, 0), Due.NONE);
        Due.is("NODE 65", x.node(65, 0), 0);
        x = empty().then(Call.offer(0, 0, 5, 1)).object();
        Due.is("dearer at 0, cheaper at 1", x.offer(0, -2, 6, 1), 1);
        Due.is("NODE 32", x.node(32, 0), 0);
        Due.is("NODE 65", x.node(65, 0), 1);
        x = empty().then(Call.offer(0, 0, 5, 1)).object();
        Due.is("like at 0, cheaper at 1", x.offer(0, -1, 5, 1), 1);
        Due.is("NODE 65", x.node(65, 0), 1);
        x = empty().then(Call.offer(0, 0, 5, 1)).object();
        Due.is("like at 0, dearer at 1", x.offer(0, 1, 5, 1), 0);
    }

    /** The one that lost may win its half from another one, which goes on then. */
    private static void theOneThatLostGoesOnBelow() {
        TariffDesk x = Due.desk(FLAT_0);
        x.offer(0, 1, -20, 63);
        stand("q - 20", x, 0, 1, Due.NONE);
        // 31 - q falls below 0 from 32 on, so 0 stays at 31; NODE 3 is free
        Due.is("31 - q", x.offer(0, -1, 31, 63), 1);
        stand("31 - q", x, 0, 1, 2);
        // 30 - q wins NODE 1; 0 goes on to NODE 2, loses at 15 to q - 20, and is BETTER at 31
        Due.is("30 - q", x.offer(0, -1, 30, 63), 2);
        Due.is("NODE 1", x.node(1, 0), 3);
        Due.is("NODE 2", x.node(2, 0), 1);
        Due.is("NODE 5", x.node(5, 0), 0);
        Due.is("NODE 3 stays", x.node(3, 0), 2);
        // -2 wins NODE 1, 30 - q goes on to NODE 3, is one less than 31 - q there all over, which is gone
        Due.is("-2", x.offer(1, 0, -2, 63), 2);
        Due.is("NODE 1", x.node(1, 0), 4);
        Due.is("NODE 3", x.node(3, 0), 3);
        Due.is("31 - q is gone", x.tariff(2, 3), 0);
        Due.is("undo()", x.undo(), 4);
        Due.is("NODE 1", x.node(1, 0), 3);
        Due.is("NODE 3", x.node(3, 0), 2);
    }

    /** From NODE 1 through all seven levels: each one is less than all before it at one end alone. */
    private static void downToOneAlone() {
        TariffDesk x = Due.desk(FLAT_0);
        for (int t = 1; t <= 6; t++) {
            Due.is("less at 63 alone, no. " + t, x.offer(0, -t, 62 * t, 63), 1);
            Due.is("one level deeper", x.node((2 << t) - 1, 0), t);
        }
        Due.is("less at 63 alone, no. 7", x.offer(0, -7, 62 * 7, 63), 1);
        Due.is("takes the NODE of 63 alone", x.node(127, 0), 7);
        Due.is("the one before it is gone", x.tariff(6, 3), 0);
        Due.is("like at 63 is gone", x.offer(0, -7, 62 * 7, 63), 0);
        Due.is("NODE of 63 alone", x.node(127, 0), 7);
        x.undo();
        x.undo();
        Due.is("after undo()", x.node(127, 0), 6);
        x = Due.desk(FLAT_0);
        for (int t = 1; t <= 5; t++) {
            Due.is("less at 0 alone, no. " + t, x.offer(0, t, -t, 63), 1);
            Due.is("one level deeper", x.node(1 << t, 0), t);
        }
        // 0 is the MIDDLE of 0 to 1: the old one is BETTER at 1 (like, and earlier) and goes on there
        Due.is("less at 0 alone, no. 6", x.offer(0, 6, -6, 63), 2);
        Due.is("NODE of 0 to 1", x.node(32, 0), 6);
        Due.is("NODE of 1 alone", x.node(65, 0), 5);
        Due.is("NODE of 0 alone", x.node(64, 0), Due.NONE);
        // now 6 goes on to 1, like 5 there, and is gone
        Due.is("less at 0 alone, no. 7", x.offer(0, 7, -7, 63), 1);
        Due.is("NODE of 1 alone stays", x.node(65, 0), 5);
        Due.is("6 is gone", x.tariff(6, 3), 0);
    }

    /** At each of the seven levels the one that comes wins, and the one that stood there goes on. */
    private static void allLevelsChange() {
        // each is dearer by 1 than the one ahead of it at the MIDDLE of its own NODE, and less at 63
        Run run = empty().then(Call.offer(0, -1, 32, 63), Call.offer(0, -2, 80, 3263), Call.offer(0, -3, 136, 4863),
                Call.offer(0, -4, 196, 5663), Call.offer(0, -5, 258, 6063), Call.offer(0, -7, 383, 6263),
                Call.offer(1, 0, -57, 6363));
        TariffDesk x = run.object();
        int[] nodes = {1, 3, 7, 15, 31, 63, 127};
        for (int i = 0; i < 7; i++) {
            Due.is("ahead of it: NODE " + nodes[i], x.node(nodes[i], 0), i);
        }
        Due.is("NODES with another one", x.offer(1, 0, 0, 63), 7);
        Due.is("the new one", x.node(1, 0), 7);
        for (int i = 1; i < 7; i++) {
            Due.is("one level deeper: NODE " + nodes[i], x.node(nodes[i], 0), i - 1);
        }
        Due.is("the last one is gone", x.tariff(6, 3), 0);
        Due.is("undo()", x.undo(), 7);
        Due.is("as it was", x.digest(), run.object().digest());
    }

    /** 1 to 62 has ten NODES, two of each size but the widest: no other SPAN has more places that an offer can change. */
    private static void deepestPushes() {
        List<Call> offers = new ArrayList<>();
        for (int t = 0; t < 40; t++) {
            // lines that touch a bowl from below: each is least for a few quantities
            int at = (t * 29) % 61 + 1;
            offers.add(Call.offer(0, 2 * at - 62, 900 - at * at, 162));
        }
        Run run = empty().then(offers.toArray(new Call[0]));
        run.isAsModelled("a bowl");
        run.then(Call.digest()).isAsModelled("a bowl, digest()");
        allUndone(run.object());
        run = empty();
        for (int t = 0; t < 40; t++) {
            run = run.then(Call.offer(1, 0, -100 * t, 162));
        }
        TariffDesk x = run.object();
        for (int t = 0; t < 40; t++) {
            Due.is("the one before is gone", x.tariff(t, 3), t == 39 ? 10 : 0);
        }
        // those that are DRAWN change more NODES above the 400 changes, and are taken back
        long before = x.digest();
        run.then(Call.drawn(30, 3, 0), Call.drawn(30, 3, 1)).isAsModelled("DRAWN on top");
        Due.that("drawn()", x.drawn(30, 3, 1) > 0);
        Due.is("all is as it was", x.digest(), before);
        allUndone(x);
    }

    private static void allUndone(TariffDesk x) {
        for (int t = 39; t >= 0; t--) {
            Due.is("undo()", x.undo(), t);
        }
        Due.is("all is as it was", x.digest(), empty().object().digest());
    }

    /** "at each NODE STANDS what did before it was" */
    private static void undoOfEachOffer() {
        Run run = Run.ofDesk("t+1+00@0063,t-1+62@0063,f+0+31@1050,s-1+93@0063");
        List<Run> before = new ArrayList<>();
        for (int t = 4; t < 40; t++) {
            before.add(run);
            run = run.then(Call.offer(t % 5, t * 7 % 11 - 5, t * 13 % 61 - 30, 100 * (t * 5 % 32) + 63 - t * 3 % 32));
        }
        TariffDesk x = run.object();
        for (int t = 39; t >= 4; t--) {
            Due.is("undo()", x.undo(), t);
            Due.is("as before " + t, x.digest(), before.get(t - 4).object().digest());
            Due.is("it is UNKNOWN then", x.tariff(t, 0), Due.UNKNOWN);
            Due.that("the one before is known", x.tariff(t - 1, 0) >= 0);
        }
    }

    private static void undoOfAnOfferThatChangedNothing() {
        TariffDesk x = Due.desk(FLAT_0);
        x.offer(0, 0, -5, 3132);
        long before = x.digest();
        Due.is("it STANDS nowhere", x.offer(1, 0, 7, 63), 0);
        Due.is("TARIFFS", x.count(0), 3);
        Due.is("undo() takes that one back, not the one before", x.undo(), 2);
        Due.is("nothing else is changed", x.digest(), before);
        Due.is("undo()", x.undo(), 1);
        Due.is("NODE of 31", x.node(95, 0), Due.NONE);
    }

    private static void undoDownToNone() {
        TariffDesk x = Due.desk("t+1+00@0063,t-1+62@0063");
        Due.is("undo()", x.undo(), 1);
        Due.is("undo()", x.undo(), 0);
        for (int i = 0; i < 3; i++) {
            Due.is("there is none", x.undo(), Due.STATE);
        }
        Due.is("a DESK with none: cheapest()", x.cheapest(0), Due.NONE);
        Due.is("cost()", x.cost(63), Due.NONE);
        Due.is("bargain()", x.bargain(0, 63), Due.NONE);
        Due.is("piece()", x.piece(0, 0), Due.UNKNOWN);
        Due.is("tariff()", x.tariff(0, 0), Due.UNKNOWN);
        Due.is("see()", x.see(0, 0, 0), Due.UNKNOWN);
        Due.is("would()", x.would(0, 1, 1, 63), 64);
        Due.is("image()", x.image(), 0);
        Due.is("GAPS", x.count(3), 64);
        Due.is("offer()", x.offer(0, 1, 1, 63), 1);
        Due.is("it has the number 0", x.cheapest(0), 0);
        Due.is("undo()", x.undo(), 0);
        Due.is("restore()", x.restore(), 0);
    }
}
