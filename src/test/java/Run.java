import java.util.ArrayList;
import java.util.List;

/** Calls that are made one after the other on a new object: as often as a test needs an object in that state. */
final class Run {
    /** An object is used for at most so many calls. */
    static final int MOST_CALLS = 512;

    private final List<Call> calls;

    private Run(List<Call> made) {
        calls = made;
    }

    static Run ofNew() {
        return new Run(List.of());
    }

    static Run ofDesk(String text) {
        return ofNew().typed(text).then(Call.desk());
    }

    Run then(Call... more) {
        List<Call> all = new ArrayList<>(calls);
        all.addAll(List.of(more));
        return new Run(all);
    }

    Run typed(String text) {
        List<Call> all = new ArrayList<>(calls);
        for (char c : text.toCharArray()) {
            all.add(Call.letter(c));
        }
        return new Run(all);
    }

    int length() {
        return calls.size();
    }

    TariffDesk object() {
        TariffDesk x = new TariffDesk();
        for (Call call : calls) {
            call.on(x);
        }
        return x;
    }

    Model model() {
        Model m = new Model();
        for (Call call : calls) {
            call.on(m);
        }
        return m;
    }

    /** All calls with the answers that the model gives. */
    void isAsModelled(String name) {
        TariffDesk x = new TariffDesk();
        Model m = new Model();
        for (int i = 0; i < calls.size(); i++) {
            Due.is(name + " call " + (i + 1) + ": " + calls.get(i).name(), calls.get(i).on(x), calls.get(i).on(m));
        }
        Due.that(name + " has at most 512 calls", calls.size() <= MOST_CALLS);
    }

    /** All that can be got out of an object, what can be UNDONE and the IMAGE too: it is used up by that. */
    static List<Long> usedUp(TariffDesk x) {
        List<Long> told = new ArrayList<>();
        told.add(x.digest());
        told.add((long) x.fault());
        int tariffs = x.count(0);
        for (int t = 0; t < tariffs; t++) {
            told.add(x.price(t, x.tariff(t, 1)));
            told.add(x.price(t, x.tariff(t, 2)));
        }
        undoAll(x, told);
        told.add((long) x.restore());
        told.add(x.digest());
        undoAll(x, told);
        return told;
    }

    private static void undoAll(TariffDesk x, List<Long> told) {
        int undone = x.undo();
        for (int i = 0; i < 41 && undone >= 0; i++) {
            told.add((long) undone);
            told.add(x.digest());
            undone = x.undo();
        }
        told.add((long) undone);
    }

    /** How many calls usedUp() makes at most, with so many tariffs now and in the image. */
    static int callsToUseUp(int tariffs, int kept) {
        return 3 + 4 * tariffs + 2 * tariffs + 1 + 2 + 2 * kept + 1;
    }
}
