import java.util.ArrayList;
import java.util.HashSet;
import java.util.List;
import java.util.Random;
import java.util.Set;

/** Long runs of calls against a model that is written from the document in the plainest way. */
public final class ModelTest {
    /** All starts of what stands ahead of the span in a tariff's text, and all starts of the span itself. */
    private static final Set<String> HEAD_STARTS = new HashSet<>();
    private static final Set<String> SPAN_STARTS = new HashSet<>();

    /** A tariff as the document tells it. */
    private record Line(int kind, long rate, long base, int first, int last) {
        long part(int asKind, int q) {
            return asKind == 1 ? 0 : asKind == 2 ? q * 2 * rate : asKind >= 3 ? (q - first) * rate : q * rate;
        }

        long price(int asKind, int q) {
            return part(asKind, q) + (asKind == 4 ? Math.floorDiv(base, 2L) : base);
        }

        boolean has(int q) {
            return q >= first && q <= last;
        }

        boolean tooGreat() {
            if (kind == 2 && (int) (2 * rate) != 2 * rate) {
                return true;
            }
            for (int q = first; q <= last; q++) {
                if ((int) part(kind, q) != part(kind, q) || (int) price(kind, q) != price(kind, q)) {
                    return true;
                }
            }
            return false;
        }
    }

    private record Sight(int tariff, int quantity, int price) {
    }

    /** The model: lists that are copied, a tree that is made anew from all offers for each answer. */
    private static final class Model {
        String page = "";
        List<Line> lines = new ArrayList<>();
        List<Sight> sights = new ArrayList<>();
        boolean desk = false;
        int reads = 0;
        List<Line> keptLines = null;
        List<Sight> keptSights = null;

        static boolean better(List<Line> all, int one, int other, int q) {
            long a = all.get(one).price(all.get(one).kind, q);
            long b = all.get(other).price(all.get(other).kind, q);
            return a != b ? a < b : one < other;
        }

        static int[] tree(List<Line> all) {
            int[] stands = new int[128];
            java.util.Arrays.fill(stands, -1);
            for (int t = 0; t < all.size(); t++) {
                spread(all, stands, t, 1, 0, 63);
            }
            return stands;
        }

        static void spread(List<Line> all, int[] stands, int t, int node, int low, int high) {
            Line line = all.get(t);
            if (line.first <= low && high <= line.last) {
                push(all, stands, t, node, low, high);
            } else if (low < high) {
                int middle = (low + high) / 2;
                spread(all, stands, t, 2 * node, low, middle);
                spread(all, stands, t, 2 * node + 1, middle + 1, high);
            }
        }

        static void push(List<Line> all, int[] stands, int t, int node, int low, int high) {
            if (stands[node] == -1) {
                stands[node] = t;
                return;
            }
            int middle = (low + high) / 2;
            int winner = better(all, t, stands[node], middle) ? t : stands[node];
            int loser = winner == t ? stands[node] : t;
            stands[node] = winner;
            if (better(all, loser, winner, low)) {
                push(all, stands, loser, 2 * node, low, middle);
            } else if (better(all, loser, winner, high)) {
                push(all, stands, loser, 2 * node + 1, middle + 1, high);
            }
        }

        static int lowest(List<Line> all, int q) {
            int best = -1;
            for (int t = 0; t < all.size(); t++) {
                if (all.get(t).has(q) && (best == -1 || better(all, t, best, q))) {
                    best = t;
                }
            }
            return best;
        }

        int fault() {
            for (int i = 0; i < page.length(); i++) {
                String start = page.substring(i - i % 12, i + 1);
                boolean right = start.length() == 12 ? start.endsWith(",")
                        : start.length() > 7 ? SPAN_STARTS.contains(start.substring(7)) : HEAD_STARTS.contains(start);
                if (!right || i >= 47) {
                    return i;
                }
            }
            return page.length();
        }

        int desk() {
            if (page.length() % 12 != 11 || fault() != page.length()) {
                return Due.STATE;
            }
            lines = new ArrayList<>();
            sights = new ArrayList<>();
            keptLines = null;
            for (String s : page.split(",")) {
                lines.add(new Line("tfsbo".indexOf(s.charAt(0)), Integer.parseInt(s.substring(1, 3)),
                        Integer.parseInt(s.substring(3, 6)), Integer.parseInt(s.substring(7, 9)),
                        Integer.parseInt(s.substring(9, 11))));
            }
            page = "";
            desk = true;
            reads++;
            return lines.size();
        }

        int sorts(int t) {
            int bits = 0;
            for (int kind = 0; kind < 5; kind++) {
                boolean so = true;
                for (Sight s : sights) {
                    so &= s.tariff != t || lines.get(t).price(kind, s.quantity) == s.price;
                }
                bits += so ? 1 << kind : 0;
            }
            return bits;
        }

        int ask(int t) {
            int bits = sorts(t);
            int best = -1;
            int least = 99;
            for (int q = lines.get(t).first; q <= lines.get(t).last; q++) {
                java.util.HashMap<Long, Integer> groups = new java.util.HashMap<>();
                for (int kind = 0; kind < 5; kind++) {
                    if ((bits >> kind) % 2 == 1) {
                        groups.merge(lines.get(t).price(kind, q), 1, Integer::sum);
                    }
                }
                int worst = groups.values().stream().mapToInt(v -> v).max().orElse(99);
                if (worst < least) {
                    least = worst;
                    best = q;
                }
            }
            return best;
        }

        int tariff(int t, int what) {
            if (t < 0 || t >= lines.size()) {
                return Due.UNKNOWN;
            }
            Line line = lines.get(t);
            int found = 0;
            switch (what) {
                case 0: return line.kind;
                case 1: return line.first;
                case 2: return line.last;
                case 3:
                    for (int standing : tree(lines)) {
                        found += standing == t ? 1 : 0;
                    }
                    return found;
                case 4:
                    for (int q = 0; q < 64; q++) {
                        found += lowest(lines, q) == t ? 1 : 0;
                    }
                    return found;
                case 5: return sorts(t);
                case 6: return ask(t);
                default: return Due.OUTSIDE;
            }
        }

        int as(int t, int kind) {
            if (t < 0 || t >= lines.size()) {
                return Due.UNKNOWN;
            }
            if (kind < 0 || kind > 4) {
                return Due.OUTSIDE;
            }
            int own = lines.get(t).kind;
            return kind == 0 || kind == own || own == 4 && kind == 3 ? t : -1;
        }

        long price(int t, int q) {
            if (t < 0 || t >= lines.size() || q < 0 || q > 63) {
                return Due.UNKNOWN;
            }
            return lines.get(t).has(q) ? Due.MORE + lines.get(t).price(lines.get(t).kind, q) : Due.OUTSIDE;
        }

        int node(int n, int what) {
            if (n < 1 || n > 127) {
                return Due.UNKNOWN;
            }
            int low = 0;
            int high = 63;
            String way = Integer.toBinaryString(n).substring(1);
            for (char c : way.toCharArray()) {
                int middle = (low + high) / 2;
                low = c == '0' ? low : middle + 1;
                high = c == '0' ? middle : high;
            }
            return what == 0 ? tree(lines)[n] : what == 1 ? low : what == 2 ? high
                    : what == 3 ? (low + high) / 2 : Due.OUTSIDE;
        }

        Line asked(int kind, int rate, int base, int span) {
            if (kind < 0 || kind > 4 || span < 0 || span / 100 > 63 || span % 100 > 63 || span / 100 > span % 100) {
                return null;
            }
            Line line = new Line(kind, rate, base, span / 100, span % 100);
            return line.tooGreat() ? null : line;
        }

        int offer(int kind, int rate, int base, int span, boolean stays) {
            Line line = asked(kind, rate, base, span);
            if (line == null) {
                return Due.OUTSIDE;
            }
            if (!desk) {
                return Due.STATE;
            }
            if (lines.size() == 40) {
                return Due.FULL;
            }
            List<Line> more = new ArrayList<>(lines);
            more.add(line);
            int told = 0;
            if (stays) {
                int[] before = tree(lines);
                int[] after = tree(more);
                for (int n = 1; n <= 127; n++) {
                    told += before[n] != after[n] ? 1 : 0;
                }
                lines = more;
            } else {
                for (int q = 0; q < 64; q++) {
                    told += lowest(more, q) == lines.size() ? 1 : 0;
                }
            }
            return told;
        }

        int undo() {
            if (lines.isEmpty()) {
                return Due.STATE;
            }
            lines = new ArrayList<>(lines.subList(0, lines.size() - 1));
            return lines.size();
        }

        int cheapest(int q) {
            return q < 0 || q > 63 || !desk ? Due.UNKNOWN : lowest(lines, q);
        }

        long cost(int q) {
            int t = cheapest(q);
            return t < 0 ? t : price(t, q);
        }

        List<int[]> pieces() {
            List<int[]> all = new ArrayList<>();
            int latest = -1;
            for (int q = 0; q < 64; q++) {
                int t = lowest(lines, q);
                if (t != -1 && t == latest) {
                    all.get(all.size() - 1)[2] = q;
                } else if (t != -1) {
                    all.add(new int[] {t, q, q});
                }
                latest = t;
            }
            return all;
        }

        int piece(int p, int what) {
            List<int[]> all = pieces();
            if (p < 0 || p >= all.size()) {
                return Due.UNKNOWN;
            }
            return what < 0 || what > 2 ? Due.OUTSIDE : all.get(p)[what];
        }

        int bargain(int from, int to) {
            if (from < 0 || to > 63 || from > to) {
                return Due.OUTSIDE;
            }
            if (!desk) {
                return Due.STATE;
            }
            int best = -1;
            for (int q = to; q >= from; q--) {
                if (cost(q) != -1 && (best == -1 || cost(q) <= cost(best))) {
                    best = q;
                }
            }
            return best;
        }

        int crossing(int one, int other) {
            if (Math.min(one, other) < 0 || Math.max(one, other) >= lines.size() || one == other) {
                return Due.UNKNOWN;
            }
            for (int q = 0; q < 64; q++) {
                if (lines.get(one).has(q) && lines.get(other).has(q) && better(lines, other, one, q)) {
                    return q;
                }
            }
            return -1;
        }

        int see(int t, int q, int price) {
            if (t < 0 || t >= lines.size() || q < 0 || q > 63) {
                return Due.UNKNOWN;
            }
            if (sights.size() == 6) {
                return Due.FULL;
            }
            sights.add(new Sight(t, q, price));
            return sights.size();
        }

        long seed;

        int draw(int of) {
            seed = (1103515245L * seed + 12345L) % (1L << 31);
            return (int) (seed / 65536 % of);
        }

        int drawn(int times, int from, int what) {
            if (times < 1 || times > 30 || from < 0 || what < 0 || what > 2) {
                return Due.OUTSIDE;
            }
            if (!desk) {
                return Due.STATE;
            }
            List<Line> more = new ArrayList<>(lines);
            seed = from;
            for (int i = 0; i < times; i++) {
                int kind = draw(5);
                int rate = draw(19) - 9;
                int base = draw(199) - 99;
                int first = draw(64);
                more.add(new Line(kind, rate, base, first, first + draw(64 - first)));
            }
            int told = 0;
            if (what == 0) {
                for (int q = 0; q < 64; q++) {
                    told += lowest(more, q) >= lines.size() ? 1 : 0;
                }
            } else if (what == 1) {
                for (int standing : tree(more)) {
                    told += standing >= lines.size() ? 1 : 0;
                }
            } else {
                told = (int) seed;
            }
            return told;
        }

        int image() {
            if (!desk) {
                return Due.STATE;
            }
            keptLines = new ArrayList<>(lines);
            keptSights = new ArrayList<>(sights);
            return lines.size();
        }

        int restore() {
            if (keptLines == null) {
                return Due.STATE;
            }
            lines = new ArrayList<>(keptLines);
            sights = new ArrayList<>(keptSights);
            return lines.size();
        }

        int count(int what) {
            int found = 0;
            switch (what) {
                case 0: return lines.size();
                case 1:
                    for (int standing : tree(lines)) {
                        found += standing >= 0 ? 1 : 0;
                    }
                    return found;
                case 2: return pieces().size();
                case 3:
                    for (int q = 0; desk && q < 64; q++) {
                        found += lowest(lines, q) == -1 ? 1 : 0;
                    }
                    return found;
                case 4:
                    for (int t = 0; t < lines.size(); t++) {
                        found += tariff(t, 4) == 0 ? 1 : 0;
                    }
                    return found;
                case 5: return sights.size();
                case 6: return page.length();
                case 7: return reads;
                default: return Due.OUTSIDE;
            }
        }

        long digest() {
            List<Long> numbers = new ArrayList<>();
            for (int t = 0; t < lines.size(); t++) {
                for (int what = 0; what <= 6; what++) {
                    numbers.add((long) tariff(t, what));
                }
            }
            for (int q = 0; desk && q < 64; q++) {
                numbers.add((long) cheapest(q));
                numbers.add(cost(q));
            }
            int[] stands = tree(lines);
            for (int n = 1; desk && n <= 127; n++) {
                numbers.add((long) stands[n]);
            }
            if (desk) {
                numbers.add((long) bargain(0, 63));
            }
            for (char c : page.toCharArray()) {
                numbers.add((long) c);
            }
            for (int what = 0; what <= 7; what++) {
                numbers.add((long) count(what));
            }
            long h = 1361;
            for (long number : numbers) {
                h = 31 * h + number;
            }
            return h;
        }
    }

    private static final int[] WILD = {-1, -2, 64, 65, 100, 127, 128, 255, Integer.MIN_VALUE, Integer.MAX_VALUE,
        1073741824, -1073741824, 34087042, 65536, 0};

    private final Random random;
    private final TariffDesk x = new TariffDesk();
    private final Model m = new Model();
    private final String name;
    private int calls = 0;

    private ModelTest(int run) {
        random = new Random(run);
        name = "run " + run + " ";
    }

    private int upTo(int most) {
        return random.nextInt(40) == 0 ? WILD[random.nextInt(WILD.length)] : random.nextInt(most + 1);
    }

    /** Mostly small; now and then great, or near to what a price can be. */
    private int amount(int most) {
        switch (random.nextInt(16)) {
            case 0: return random.nextInt();
            case 1: return WILD[random.nextInt(WILD.length)];
            case 2: return Integer.MAX_VALUE / (1 + random.nextInt(64)) * (random.nextBoolean() ? 1 : -1);
            default: return random.nextInt(2 * most + 1) - most;
        }
    }

    private int tariff() {
        return random.nextInt(30) == 0 ? upTo(40) : m.lines.isEmpty() ? 0 : random.nextInt(m.lines.size());
    }

    private int span() {
        int first = random.nextInt(3) == 0 ? 0 : random.nextInt(64);
        int last = random.nextInt(3) == 0 ? 63 : random.nextInt(66);
        return random.nextInt(40) == 0 ? upTo(6463) : 100 * Math.min(first, last) + Math.max(first, last);
    }

    private void due(String call, long got, long want) {
        calls++;
        Due.is(name + "call " + calls + ": " + call, got, want);
    }

    private void typeDesk() {
        StringBuilder text = new StringBuilder();
        int tariffs = 1 + random.nextInt(4);
        for (int i = 0; i < tariffs; i++) {
            int first = random.nextInt(64);
            int last = first + random.nextInt(64 - first);
            text.append(i == 0 ? "" : ",").append("tfsbo".charAt(random.nextInt(5)))
                    .append(random.nextBoolean() ? '+' : '-').append(random.nextInt(10))
                    .append(random.nextBoolean() ? '+' : '-').append(String.format("%02d", random.nextInt(100)))
                    .append('@').append(String.format("%02d%02d", first, last));
        }
        if (random.nextInt(4) == 0) {
            text.setCharAt(random.nextInt(text.length()), (char) (32 + random.nextInt(95)));
        }
        if (random.nextInt(4) == 0) {
            text.setCharAt(random.nextInt(text.length()), "0123456789+-@,tfsbo".charAt(random.nextInt(19)));
        }
        if (random.nextInt(6) == 0) {
            text.append(",t+");
        }
        if (random.nextInt(4) != 0) {
            due("blank()", x.blank(), m.page.length());
            m.page = "";
        }
        for (char c : text.toString().toCharArray()) {
            letter(c);
        }
        due("fault()", x.fault(), m.fault());
        due("desk()", x.desk(), m.desk());
    }

    private void letter(int code) {
        int want = code < 32 || code > 126 ? Due.OUTSIDE : m.page.length() == 50 ? Due.FULL : m.page.length() + 1;
        if (want > 0) {
            m.page += (char) code;
        }
        due("letter(" + code + ")", x.letter(code), want);
    }

    private void offer() {
        int kind = upTo(4);
        int rate = amount(9);
        int base = amount(300);
        int span = span();
        boolean stays = random.nextInt(4) != 0;
        String call = (stays ? "offer(" : "would(") + kind + ", " + rate + ", " + base + ", " + span + ")";
        int got = stays ? x.offer(kind, rate, base, span) : x.would(kind, rate, base, span);
        due(call, got, m.offer(kind, rate, base, span, stays));
    }

    private void see() {
        int t = tariff();
        int q = upTo(63);
        int price = random.nextInt(50);
        if (t >= 0 && t < m.lines.size() && random.nextInt(8) != 0) {
            price = (int) m.lines.get(t).price(random.nextInt(3) == 0 ? random.nextInt(5) : m.lines.get(t).kind, q);
        }
        due("see(" + t + ", " + q + ", " + price + ")", x.see(t, q, price), m.see(t, q, price));
    }

    private void crossing(int one, int other) {
        due("crossing(" + one + ", " + other + ")", x.crossing(one, other), m.crossing(one, other));
    }

    private void drawn(int times, int from, int what) {
        due("drawn(" + times + ", " + from + ", " + what + ")", x.drawn(times, from, what), m.drawn(times, from, what));
    }

    private void call() {
        int a = tariff();
        int b = upTo(63);
        int c = upTo(63);
        int what = upTo(7);
        switch (random.nextInt(24)) {
            case 0: letter(upTo(140)); break;
            case 1: due("fault()", x.fault(), m.fault()); break;
            case 2: due("tariff(" + a + ", " + what + ")", x.tariff(a, what), m.tariff(a, what)); break;
            case 3: due("as(" + a + ", " + what + ")", x.as(a, what), m.as(a, what)); break;
            case 4: due("price(" + a + ", " + b + ")", x.price(a, b), m.price(a, b)); break;
            case 5: due("node(" + 2 * b + ", " + what + ")", x.node(2 * b, what), m.node(2 * b, what)); break;
            case 6: case 7: case 8: case 9: case 10: case 11: offer(); break;
            case 12: due("undo()", x.undo(), m.undo()); break;
            case 13: due("cheapest(" + b + ")", x.cheapest(b), m.cheapest(b)); break;
            case 14: due("cost(" + b + ")", x.cost(b), m.cost(b)); break;
            case 15: due("piece(" + b / 8 + ", " + what + ")", x.piece(b / 8, what), m.piece(b / 8, what)); break;
            case 16: due("bargain(" + b + ", " + c + ")", x.bargain(b, c), m.bargain(b, c)); break;
            case 17: crossing(a, tariff()); break;
            case 18: see(); break;
            case 19: drawn(upTo(32), random.nextBoolean() ? c : random.nextInt(), b % 4); break;
            case 20: due("digest()", x.digest(), m.digest()); break;
            case 21: due("count(" + what + ")", x.count(what), m.count(what)); break;
            default: seldom(); break;
        }
    }

    private void seldom() {
        switch (random.nextInt(12)) {
            case 0: case 1: due("image()", x.image(), m.image()); break;
            case 2: due("restore()", x.restore(), m.restore()); break;
            case 3: due("forget()", x.forget(), m.sights.size()); m.sights.clear(); break;
            case 4: due("desk()", x.desk(), m.desk()); break;
            case 5: typeDesk(); break;
            default: int n = upTo(128); due("node(" + n + ", 0)", x.node(n, 0), m.node(n, 0)); break;
        }
    }

    private void go() {
        for (int i = random.nextInt(20); i > 0; i--) {
            call();
        }
        do {
            typeDesk();
        } while (!m.desk && calls < 400);
        while (calls < 512) {
            call();
        }
        Due.is(name + "digest() at the end", x.digest(), m.digest());
    }

    private static void addStarts(Set<String> starts, String text) {
        for (int length = 1; length <= text.length(); length++) {
            starts.add(text.substring(0, length));
        }
    }

    private static void listStarts() {
        for (int i = 0; i < 5 * 20 * 200; i++) {
            int rate = i / 5 % 20;
            int base = i / 100;
            addStarts(HEAD_STARTS, String.format("%c%c%d%c%02d@", "tfsbo".charAt(i % 5),
                    rate < 10 ? '+' : '-', rate % 10, base < 100 ? '+' : '-', base % 100));
        }
        for (int first = 0; first < 64; first++) {
            for (int last = first; last < 64; last++) {
                addStarts(SPAN_STARTS, String.format("%02d%02d", first, last));
            }
        }
    }

    public static void main(String[] args) {
        listStarts();
        for (int run = 0; run < 400 && Due.allRight(); run++) {
            new ModelTest(run).go();
        }
        Due.end();
    }
}
