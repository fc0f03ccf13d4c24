import java.util.Random;

/** Long runs of calls against the model. */
public final class ModelTest {
    private static final int[] WILD = {-1, -2, 64, 65, 100, 127, 128, 255, Integer.MIN_VALUE, Integer.MAX_VALUE,
        1073741824, -1073741824, 34087042, 65536, 0};

    private final Random random;
    private final TariffDesk x = new TariffDesk();
    private final Model m = new Model();
    private final String name;
    private int calls = 0;

    private ModelTest(int run) {
        random = new Random(run);
        name = "run " + run + " ";
    }

    private int upTo(int most) {
        return random.nextInt(40) == 0 ? WILD[random.nextInt(WILD.length)] : random.nextInt(most + 1);
    }

    /** Mostly small; now and then great, or near to what a price can be. */
    private int amount(int most) {
        switch (random.nextInt(16)) {
            case 0: return random.nextInt();
            case 1: return WILD[random.nextInt(WILD.length)];
            case 2: return Integer.MAX_VALUE / (1 + random.nextInt(64)) * (random.nextBoolean() ? 1 : -1);
            default: return random.nextInt(2 * most + 1) - most;
        }
    }

    private int tariff() {
        return random.nextInt(30) == 0 ? upTo(40) : m.lines.isEmpty() ? 0 : random.nextInt(m.lines.size());
    }

    private int span() {
        int first = random.nextInt(3) == 0 ? 0 : random.nextInt(64);
        int last = random.nextInt(3) == 0 ? 63 : random.nextInt(66);
        return random.nextInt(40) == 0 ? upTo(6463) : 100 * Math.min(first, last) + Math.max(first, last);
    }

    private void make(Call call) {
        calls++;
        Due.is(name + "call " + calls + ": " + call.name(), call.on(x), call.on(m));
    }

    private String deskText() {
        StringBuilder text = new StringBuilder();
        int tariffs = 1 + random.nextInt(4);
        for (int i = 0; i < tariffs; i++) {
            int first = random.nextInt(64);
            int last = first + random.nextInt(64 - first);
            text.append(i == 0 ? "" : ",").append("tfsbo".charAt(random.nextInt(5)))
                    .append(random.nextBoolean() ? '+' : '-').append(random.nextInt(10))
                    .append(random.nextBoolean() ? '+' : '-').append(String.format("%02d", random.nextInt(100)))
                    .append('@').append(String.format("%02d%02d", first, last));
        }
        if (random.nextInt(4) == 0) {
            text.setCharAt(random.nextInt(text.length()), (char) (32 + random.nextInt(95)));
        }
        if (random.nextInt(4) == 0) {
            text.setCharAt(random.nextInt(text.length()), "0123456789+-@,tfsbo".charAt(random.nextInt(19)));
        }
        if (random.nextInt(6) == 0) {
            text.append(",t+");
        }
        return text.toString();
    }

    private void typeDesk() {
        if (random.nextInt(4) != 0) {
            make(Call.blank());
        }
        for (char c : deskText().toCharArray()) {
            make(Call.letter(c));
        }
        make(Call.fault());
        make(Call.desk());
    }

    private Call offerOrWould() {
        int kind = upTo(4);
        int rate = amount(9);
        int base = amount(300);
        int span = span();
        return random.nextInt(4) != 0 ? Call.offer(kind, rate, base, span) : Call.would(kind, rate, base, span);
    }

    private Call see() {
        int t = tariff();
        int q = upTo(63);
        int price = random.nextInt(50);
        if (t >= 0 && t < m.lines.size() && random.nextInt(8) != 0) {
            Model.Line line = m.lines.get(t);
            price = (int) line.price(random.nextInt(3) == 0 ? random.nextInt(5) : line.kind(), q);
        }
        return Call.see(t, q, price);
    }

    private Call oneCall() {
        int a = tariff();
        int b = upTo(63);
        int c = upTo(63);
        int what = upTo(7);
        switch (random.nextInt(24)) {
            case 0: return Call.letter(upTo(140));
            case 1: return Call.fault();
            case 2: return Call.tariff(a, what);
            case 3: return Call.as(a, what);
            case 4: return Call.price(a, b);
            case 5: return Call.node(2 * b, what);
            case 6: case 7: case 8: case 9: case 10: case 11: return offerOrWould();
            case 12: return Call.undo();
            case 13: return Call.cheapest(b);
            case 14: return Call.cost(b);
            case 15: return Call.piece(b / 8, what);
            case 16: return Call.bargain(b, c);
            case 17: return Call.crossing(a, tariff());
            case 18: return see();
            case 19: return Call.drawn(upTo(32), random.nextBoolean() ? c : random.nextInt(), b % 4);
            case 20: return Call.digest();
            case 21: return Call.count(what);
            default: return seldomCall();
        }
    }

    private Call seldomCall() {
        switch (random.nextInt(12)) {
            case 0: case 1: return Call.image();
            case 2: return Call.restore();
            case 3: return Call.forget();
            case 4: return Call.desk();
            default: return Call.node(upTo(128), 0);
        }
    }

    private void go() {
        for (int i = random.nextInt(20); i > 0; i--) {
            make(oneCall());
        }
        do {
            typeDesk();
        } while (!m.desk && calls < 400);
        while (calls < Run.MOST_CALLS - 1) {
            if (calls < 440 && random.nextInt(300) == 0) {
                typeDesk();
            } else {
                make(oneCall());
            }
        }
        make(Call.digest());
    }

    public static void main(String[] args) {
        for (int run = 0; run < 400 && Due.allRight(); run++) {
            new ModelTest(run).go();
        }
        Due.end();
    }
}
