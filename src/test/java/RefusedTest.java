import java.util.ArrayList;
import java.util.List;

/**
 * Refusals of every call: which, of several the first as told by the call, and that they change nothing.
 * What is due stands in the tables here; a wider grid of arguments is held against the model.
 */
public final class RefusedTest {
    private static final int NONE = Due.NONE, UNKNOWN = Due.UNKNOWN, OUTSIDE = Due.OUTSIDE, STATE = Due.STATE;
    private static final int FULL = Due.FULL;
    private static final int MIN = Integer.MIN_VALUE, MAX = Integer.MAX_VALUE;
    private static final String FOUR = "t+1+00@0063,f-0+30@1050,s-1+40@2040,o+2-09@3063";
    private static final int BATCH = 35;

    /** A state, with how many tariffs it has now and in its image. */
    private record Scene(String name, Run run, int tariffs, int kept) {
    }

    private static final Scene NEW = new Scene("a new object", Run.ofNew(), 0, 0);
    private static final Scene TYPED = new Scene("a DESK typed, not read", Run.ofNew().typed(FOUR), 0, 0);
    private static final Scene OVERTYPED = new Scene("a full PAGE, no DESK",
            Run.ofNew().typed(FOUR + ",t+"), 0, 0);
    private static final Scene ONE = new Scene("a DESK of one", Run.ofDesk("b+1-05@1020"), 1, 0);
    private static final Scene EMPTY = new Scene("a DESK, all UNDONE",
            Run.ofDesk("b+1-05@1020").then(Call.image(), Call.see(0, 9, 9), Call.undo()).typed("t+"), 0, 1);
    private static final Scene ANOTHER = new Scene("another DESK since the IMAGE",
            Run.ofDesk("f+0+01@0063").then(Call.image(), Call.see(0, 0, 1)).typed(FOUR).then(Call.desk()), 4, 0);
    private static final Scene ALL_BUT_FULL = new Scene("one less than can be", offersUpTo(39).then(Call.image(),
            Call.see(0, 1, 1), Call.see(1, 10, 30), Call.see(2, 63, 1), Call.see(3, 0, 9), Call.see(3, 1, 9))
            .typed(FOUR + ",b"), 39, 39);
    private static final Scene ALL_FULL = new Scene("as many as can be", offersUpTo(40).then(Call.see(0, 1, 1),
            Call.see(1, 10, 30), Call.see(2, 63, 1), Call.see(3, 0, 9), Call.see(3, 1, 9), Call.image(),
            Call.see(39, 5, 5)).typed(FOUR + ",b-"), 40, 40);
    private static final Scene[] ALL = {NEW, TYPED, OVERTYPED, ONE, EMPTY, ANOTHER, ALL_BUT_FULL, ALL_FULL};

    private static Run offersUpTo(int tariffs) {
        Run run = Run.ofDesk(FOUR);
        for (int t = 4; t < tariffs; t++) {
            run = run.then(Call.offer(t % 5, t % 7 - 3, 40 - 3 * t, 100 * (t % 9) + 63 - t % 13));
        }
        return run;
    }

    public static void main(String[] args) {
        scenesAreAsNamed();
        promises2To5();
        promises6To9();
        promises10And11();
        promises12To16();
        promise17();
        promises18To20();
        promises21To23();
        ordersOfRefusals();
        bothSidesOfFull();
        for (Scene scene : ALL) {
            gridOf(scene);
        }
        Due.end();
    }

    private static void scenesAreAsNamed() {
        for (Scene scene : ALL) {
            scene.run.isAsModelled(scene.name);
            Due.is(scene.name + ": TARIFFS", scene.run.model().lines.size(), scene.tariffs);
            Due.that(scene.name + ": calls", scene.run.length() + BATCH
                    + Run.callsToUseUp(scene.tariffs, scene.kept) <= Run.MOST_CALLS);
        }
        Due.is("a full PAGE", OVERTYPED.run.object().count(6), 50);
        Due.is("as many as can be, letters", ALL_FULL.run.object().count(6), 50);
        Due.is("as many as can be, SEEN", ALL_FULL.run.object().count(5), 6);
        Due.is("one less, letters", ALL_BUT_FULL.run.object().count(6), 49);
        Due.is("one less, SEEN", ALL_BUT_FULL.run.object().count(5), 5);
    }

    /** The calls answer so, and an object on which they were made is as one on which they were not. */
    private static void unchanged(Scene scene, List<Call> calls, long... due) {
        TariffDesk x = scene.run.object();
        for (int i = 0; i < calls.size(); i++) {
            Due.is(scene.name + ": " + calls.get(i).name(), calls.get(i).on(x), due[i]);
        }
        boolean same = Run.usedUp(x).equals(Run.usedUp(scene.run.object()));
        Due.that(scene.name + ": nothing is changed by " + calls.get(0).name() + " ..", same);
    }

    private static void refused(Scene scene, long due, Call... calls) {
        for (Call call : calls) {
            unchanged(scene, List.of(call), due);
        }
    }

    private static void refusedEverywhere(long due, Call... calls) {
        for (Scene scene : ALL) {
            refused(scene, due, calls);
        }
    }

    private static void promises2To5() {
        refusedEverywhere(OUTSIDE, Call.letter(31), Call.letter(127), Call.letter(0), Call.letter(-1),
                Call.letter(MIN), Call.letter(MAX), Call.letter(256 + 't'), Call.letter(65536 + 't'));
        for (Scene scene : new Scene[] {OVERTYPED, ALL_FULL}) {
            refused(scene, FULL, Call.letter(32), Call.letter('t'), Call.letter(126));
        }
        for (Scene scene : new Scene[] {NEW, OVERTYPED, ONE, EMPTY, ANOTHER, ALL_BUT_FULL, ALL_FULL}) {
            refused(scene, STATE, Call.desk());
        }
    }

    private static void promises6To9() {
        for (Scene scene : ALL) {
            for (int t : new int[] {MIN, -1, scene.tariffs, 40, 41, 69, 70, MAX}) {
                refused(scene, UNKNOWN, Call.tariff(t, 0), Call.tariff(t, 6), Call.as(t, 0), Call.as(t, 4),
                        Call.price(t, 0), Call.price(t, 63));
            }
        }
        for (Scene scene : new Scene[] {ONE, ANOTHER, ALL_FULL}) {
            int last = scene.tariffs - 1;
            refused(scene, OUTSIDE, Call.tariff(0, -1), Call.tariff(last, 7), Call.tariff(0, MIN),
                    Call.tariff(last, MAX), Call.as(0, -1), Call.as(last, 5), Call.as(0, MIN), Call.as(last, MAX));
            refused(scene, UNKNOWN, Call.price(0, -1), Call.price(last, 64), Call.price(0, MIN), Call.price(0, MAX));
        }
        refused(ONE, OUTSIDE, Call.price(0, 9), Call.price(0, 21), Call.price(0, 0), Call.price(0, 63));
        refused(ANOTHER, OUTSIDE, Call.price(1, 9), Call.price(1, 51), Call.price(3, 29));
        refusedEverywhere(UNKNOWN, Call.node(0, 0), Call.node(128, 0), Call.node(-1, 3), Call.node(MIN, 1),
                Call.node(MAX, 2));
        refusedEverywhere(OUTSIDE, Call.node(1, -1), Call.node(1, 4), Call.node(127, 4), Call.node(64, MIN),
                Call.node(63, MAX));
    }

    private static void promises10And11() {
        for (int kind : new int[] {MIN, -1, 5, MAX}) {
            refusedEverywhere(OUTSIDE, Call.offer(kind, 1, 1, 63));
        }
        for (int span : new int[] {MIN, -6363, -101, -100, -63, -1, 64, 99, 100, 6261, 6362, 6264, 6364, 6399, 6400,
            6463, 6464, 10000, 1000063, MAX}) {
            refusedEverywhere(OUTSIDE, Call.offer(0, 1, 1, span));
        }
        refusedEverywhere(OUTSIDE, Call.offer(0, MAX, 0, 2), Call.offer(0, MAX, 1, 1), Call.offer(2, 1 << 30, 0, 0),
                Call.offer(3, MIN, -1, 6263), Call.offer(4, MAX, 2, 6263), Call.offer(0, 1 << 30, MIN, 2));
        for (Scene scene : new Scene[] {NEW, TYPED, OVERTYPED}) {
            refused(scene, STATE, Call.offer(0, 1, 1, 63), Call.offer(4, MAX, 1, 6263), Call.undo());
        }
        refused(ALL_FULL, FULL, Call.offer(0, 1, 1, 63), Call.offer(1, 0, MIN, 63), Call.offer(4, 0, 0, 6363));
        refused(EMPTY, STATE, Call.undo());
    }

    private static void promises12To16() {
        for (int q : new int[] {MIN, -1, 64, MAX}) {
            refusedEverywhere(UNKNOWN, Call.cheapest(q), Call.cost(q));
            refusedEverywhere(OUTSIDE, Call.bargain(q, 63), Call.bargain(0, q), Call.bargain(q, q));
        }
        refusedEverywhere(OUTSIDE, Call.bargain(1, 0), Call.bargain(63, 62), Call.bargain(63, 0));
        for (Scene scene : new Scene[] {NEW, TYPED, OVERTYPED}) {
            refused(scene, UNKNOWN, Call.cheapest(0), Call.cheapest(63), Call.cost(0), Call.cost(63));
            refused(scene, STATE, Call.bargain(0, 63), Call.bargain(0, 0), Call.bargain(63, 63));
        }
        for (Scene scene : ALL) {
            int pieces = scene.run.object().count(2);
            for (int piece : new int[] {MIN, -1, pieces, 64, MAX}) {
                refused(scene, UNKNOWN, Call.piece(piece, 0), Call.piece(piece, 2), Call.piece(piece, 3));
            }
            if (pieces > 0) {
                refused(scene, OUTSIDE, Call.piece(0, -1), Call.piece(0, 3), Call.piece(pieces - 1, MIN),
                        Call.piece(pieces - 1, MAX));
            }
            for (int t : new int[] {MIN, -1, scene.tariffs, 40, 69, 70, MAX}) {
                refused(scene, UNKNOWN, Call.crossing(t, 0), Call.crossing(0, t), Call.crossing(t, t));
            }
            refused(scene, UNKNOWN, Call.crossing(0, 0), Call.crossing(scene.tariffs - 1, scene.tariffs - 1));
        }
    }

    private static void promise17() {
        for (int kind : new int[] {MIN, -1, 5, MAX}) {
            refusedEverywhere(OUTSIDE, Call.would(kind, 1, 1, 63));
        }
        for (int span : new int[] {MIN, -1, 64, 99, 100, 6362, 6364, 6400, 6463, MAX}) {
            refusedEverywhere(OUTSIDE, Call.would(0, 1, 1, span));
        }
        refusedEverywhere(OUTSIDE, Call.would(0, MAX, 0, 2), Call.would(2, 1 << 30, 0, 0));
        for (Scene scene : new Scene[] {NEW, TYPED, OVERTYPED}) {
            refused(scene, STATE, Call.would(0, 1, 1, 63), Call.would(4, MAX, 1, 6263));
        }
        refused(ALL_FULL, FULL, Call.would(0, 1, 1, 63), Call.would(1, 0, MIN, 63));
    }

    private static void promises18To20() {
        for (Scene scene : ALL) {
            for (int t : new int[] {MIN, -1, scene.tariffs, 40, MAX}) {
                refused(scene, UNKNOWN, Call.see(t, 0, 0), Call.see(t, 63, MAX));
            }
            for (int q : new int[] {MIN, -1, 64, MAX}) {
                refused(scene, UNKNOWN, Call.see(0, q, 0), Call.see(scene.tariffs - 1, q, MIN));
            }
        }
        refused(ALL_FULL, FULL, Call.see(0, 0, 0), Call.see(39, 63, MAX));
        for (int times : new int[] {MIN, -1, 0, 31, MAX}) {
            refusedEverywhere(OUTSIDE, Call.drawn(times, 0, 0), Call.drawn(times, 1, 2));
        }
        refusedEverywhere(OUTSIDE, Call.drawn(1, -1, 0), Call.drawn(30, MIN, 2), Call.drawn(1, 0, -1),
                Call.drawn(30, 0, 3), Call.drawn(1, 0, MIN), Call.drawn(1, 0, MAX));
        for (Scene scene : new Scene[] {NEW, TYPED, OVERTYPED}) {
            refused(scene, STATE, Call.drawn(1, 0, 0), Call.drawn(30, MAX, 2));
        }
    }

    private static void promises21To23() {
        for (Scene scene : new Scene[] {NEW, TYPED, OVERTYPED}) {
            refused(scene, STATE, Call.image(), Call.restore());
        }
        refused(ONE, STATE, Call.restore());
        refused(ANOTHER, STATE, Call.restore());
        refusedEverywhere(OUTSIDE, Call.count(-1), Call.count(8), Call.count(MIN), Call.count(MAX));
    }

    /** Where two refusals would be right, the one that the call tells first. */
    private static void ordersOfRefusals() {
        refused(ALL_FULL, OUTSIDE, Call.letter(31), Call.letter(127));
        refused(ALL_FULL, UNKNOWN, Call.tariff(40, 7), Call.as(40, 5), Call.price(40, 64), Call.node(0, 4),
                Call.piece(64, 3), Call.see(40, 0, 0), Call.see(0, 64, 0));
        refused(ALL_FULL, OUTSIDE, Call.offer(5, 1, 1, 63), Call.offer(0, 1, 1, 64), Call.offer(0, MAX, MAX, 63),
                Call.would(5, 1, 1, 63), Call.would(0, 1, 1, 64), Call.would(0, MAX, MAX, 63));
        refused(NEW, OUTSIDE, Call.offer(5, 1, 1, 63), Call.offer(0, 1, 1, 64), Call.offer(0, MAX, MAX, 63),
                Call.would(5, 1, 1, 63), Call.would(0, 1, 1, 64), Call.would(0, MAX, MAX, 63),
                Call.bargain(1, 0), Call.bargain(0, 64), Call.drawn(0, 0, 0), Call.drawn(1, -1, 0),
                Call.drawn(1, 0, 3), Call.node(1, 4));
        refused(NEW, UNKNOWN, Call.tariff(0, 7), Call.as(0, 5), Call.price(0, 64), Call.piece(0, 3),
                Call.cheapest(64), Call.cost(64), Call.node(0, 4));
        // its SPAN is 10 to 20: 64 is no QUANTITY at all
        refused(ONE, UNKNOWN, Call.price(0, 64), Call.price(1, 9));
    }

    /** The last call that is taken, ahead of the first one that is refused. */
    private static void bothSidesOfFull() {
        TariffDesk x = ALL_BUT_FULL.run.object();
        Due.is("letter no. 50", x.letter('t'), 50);
        Due.is("letter no. 51", x.letter('t'), FULL);
        Due.that("would() of no. 39", x.would(1, 0, MIN, 63) == 64);
        Due.that("offer() of no. 39", x.offer(1, 0, MIN, 63) > 0);
        Due.is("would() of no. 40", x.would(1, 0, MIN, 63), FULL);
        Due.is("offer() of no. 40", x.offer(1, 0, MIN, 63), FULL);
        Due.is("see() no. 6", x.see(39, 0, MIN), 6);
        Due.is("see() no. 7", x.see(39, 0, MIN), FULL);
        Due.is("undo()", x.undo(), 39);
        Due.that("offer() after undo()", x.offer(1, 0, 5, 63) >= 0);
        Due.is("forget()", x.forget(), 6);
        Due.is("see() after forget()", x.see(39, 0, MIN), 1);
        Due.is("blank()", x.blank(), 50);
        Due.is("letter() after blank()", x.letter('t'), 1);
        Due.is("restore()", x.restore(), 39);
        Due.is("nothing was SEEN then", x.count(5), 0);
        Due.that("offer() after restore()", x.offer(1, 0, 5, 63) >= 0);
        Due.is("offer() once more", x.offer(1, 0, 5, 63), FULL);
        Due.is("NONE is an answer, no refusal", EMPTY.run.object().bargain(0, 63), NONE);
    }

    /** Each call with arguments at the edges and beyond them: as the model, and nothing changed where nothing may. */
    private static void gridOf(Scene scene) {
        List<Call> batch = new ArrayList<>();
        for (Call call : grid(scene)) {
            Model m = scene.run.model();
            long due = call.on(m);
            if (call.onlyAsks() || due <= UNKNOWN) {
                batch.add(call);
            } else {
                TariffDesk x = scene.run.object();
                Due.is(scene.name + ": " + call.name(), call.on(x), due);
                Due.is(scene.name + ": " + call.name() + ", digest()", x.digest(), m.digest());
            }
            if (batch.size() == BATCH) {
                asModelled(scene, batch);
                batch.clear();
            }
        }
        if (!batch.isEmpty()) {
            asModelled(scene, batch);
        }
    }

    private static void asModelled(Scene scene, List<Call> batch) {
        Model m = scene.run.model();
        unchanged(scene, batch, batch.stream().mapToLong(call -> call.on(m)).toArray());
    }

    private static List<Call> grid(Scene scene) {
        int[] tariffs = {MIN, -1, 0, 1, 3, scene.tariffs - 1, scene.tariffs, 39, 40, 70, MAX};
        int[] quantities = {MIN, -1, 0, 1, 9, 10, 20, 21, 31, 32, 62, 63, 64, MAX};
        int[] whats = {MIN, -1, 0, 1, 2, 3, 4, 5, 6, 7, 8, MAX};
        List<Call> all = new ArrayList<>(List.of(Call.blank(), Call.fault(), Call.desk(), Call.undo(), Call.forget(),
                Call.image(), Call.restore(), Call.digest()));
        for (int code : new int[] {MIN, -1, 0, 31, 32, 33, 48, 57, 116, 125, 126, 127, 128, 255, 256, MAX}) {
            all.add(Call.letter(code));
        }
        for (int q : quantities) {
            all.add(Call.cheapest(q));
            all.add(Call.cost(q));
            for (int t : tariffs) {
                all.add(Call.price(t, q));
                all.add(Call.see(t, q, 1));
            }
            for (int to : quantities) {
                all.add(Call.bargain(q, to));
            }
        }
        for (int what : whats) {
            all.add(Call.count(what));
            for (int t : tariffs) {
                all.add(Call.tariff(t, what));
                all.add(Call.as(t, what));
            }
            for (int number : new int[] {MIN, -1, 0, 1, 2, 3, 62, 63, 64, 65, 126, 127, 128, MAX}) {
                all.add(Call.node(number, what));
                all.add(Call.piece(number, what));
            }
        }
        for (int one : tariffs) {
            for (int other : tariffs) {
                all.add(Call.crossing(one, other));
            }
        }
        addOffers(all);
        addDrawn(all);
        return all;
    }

    private static void addOffers(List<Call> all) {
        int[] kinds = {MIN, -1, 0, 1, 2, 3, 4, 5, MAX};
        int[] rates = {MIN, -(1 << 30) - 1, -(1 << 30), -1, 1, (1 << 30) - 1, 1 << 30, MAX};
        int[] spans = {MIN, -100, -1, 0, 1, 63, 64, 99, 100, 101, 162, 3132, 6263, 6300, 6362, 6363, 6364, 6463, MAX};
        for (int kind : kinds) {
            for (int span : spans) {
                all.add(Call.offer(kind, -1, 7, span));
                all.add(Call.would(kind, -1, 7, span));
            }
            for (int rate : rates) {
                all.add(Call.offer(kind, rate, 0, 101));
                all.add(Call.offer(kind, rate, 1, 6263));
                all.add(Call.would(kind, rate, -1, 0));
            }
        }
    }

    private static void addDrawn(List<Call> all) {
        for (int what : new int[] {MIN, -1, 0, 1, 2, 3, MAX}) {
            for (int times : new int[] {MIN, -1, 0, 1, 2, 29, 30, 31, MAX}) {
                all.add(Call.drawn(times, 7, what));
            }
            for (int seed : new int[] {MIN, -1, 0, 1, MAX - 1, MAX}) {
                all.add(Call.drawn(3, seed, what));
            }
        }
    }
}
