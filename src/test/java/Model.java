import java.util.ArrayList;
import java.util.HashSet;
import java.util.List;
import java.util.Set;

/** The document in the plainest way: lists that are copied, a tree made anew from all offers for each answer. */
final class Model {
    /** All starts of what stands ahead of the span in a tariff's text, and all starts of the span itself. */
    private static final Set<String> HEAD_STARTS = new HashSet<>();
    private static final Set<String> SPAN_STARTS = new HashSet<>();

    static {
        listStarts();
    }

    /** A tariff as the document tells it. */
    record Line(int kind, long rate, long base, int first, int last) {
        long part(int asKind, int q) {
            return asKind == 1 ? 0 : asKind == 2 ? q * 2 * rate : asKind >= 3 ? (q - first) * rate : q * rate;
        }

        long price(int asKind, int q) {
            return part(asKind, q) + (asKind == 4 ? Math.floorDiv(base, 2L) : base);
        }

        boolean has(int q) {
            return q >= first && q <= last;
        }

        boolean tooGreat() {
            if (kind == 2 && (int) (2 * rate) != 2 * rate) {
                return true;
            }
            for (int q = first; q <= last; q++) {
                if ((int) part(kind, q) != part(kind, q) || (int) price(kind, q) != price(kind, q)) {
                    return true;
                }
            }
            return false;
        }
    }

    record Sight(int tariff, int quantity, int price) {
    }

    String page = "";
    List<Line> lines = new ArrayList<>();
    List<Sight> sights = new ArrayList<>();
    boolean desk = false;
    int reads = 0;
    List<Line> keptLines = null;
    List<Sight> keptSights = null;

    static boolean better(List<Line> all, int one, int other, int q) {
        long a = all.get(one).price(all.get(one).kind, q);
        long b = all.get(other).price(all.get(other).kind, q);
        return a != b ? a < b : one < other;
    }

    static int[] tree(List<Line> all) {
        int[] stands = new int[128];
        java.util.Arrays.fill(stands, -1);
        for (int t = 0; t < all.size(); t++) {
            spread(all, stands, t, 1, 0, 63);
        }
        return stands;
    }

    static void spread(List<Line> all, int[] stands, int t, int node, int low, int high) {
        Line line = all.get(t);
        if (line.first <= low && high <= line.last) {
            push(all, stands, t, node, low, high);
        } else if (low < high) {
            int middle = (low + high) / 2;
            spread(all, stands, t, 2 * node, low, middle);
            spread(all, stands, t, 2 * node + 1, middle + 1, high);
        }
    }

    static void push(List<Line> all, int[] stands, int t, int node, int low, int high) {
        if (stands[node] == -1) {
            stands[node] = t;
            return;
        }
        int middle = (low + high) / 2;
        int winner = better(all, t, stands[node], middle) ? t : stands[node];
        int loser = winner == t ? stands[node] : t;
        stands[node] = winner;
        if (better(all, loser, winner, low)) {
            push(all, stands, loser, 2 * node, low, middle);
        } else if (better(all, loser, winner, high)) {
            push(all, stands, loser, 2 * node + 1, middle + 1, high);
        }
    }

    static int lowest(List<Line> all, int q) {
        int best = -1;
        for (int t = 0; t < all.size(); t++) {
            if (all.get(t).has(q) && (best == -1 || better(all, t, best, q))) {
                best = t;
            }
        }
        return best;
    }

    int letter(int code) {
        if (code < 32 || code > 126) {
            return Due.OUTSIDE;
        }
        if (page.length() == 50) {
            return Due.FULL;
        }
        page += (char) code;
        return page.length();
    }

    int blank() {
        int had = page.length();
        page = "";
        return had;
    }

    int fault() {
        for (int i = 0; i < page.length(); i++) {
            String start = page.substring(i - i % 12, i + 1);
            boolean right = start.length() == 12 ? start.endsWith(",")
                    : start.length() > 7 ? SPAN_STARTS.contains(start.substring(7)) : HEAD_STARTS.contains(start);
            if (!right || i >= 47) {
                return i;
            }
        }
        return page.length();
    }

    int desk() {
        if (page.length() % 12 != 11 || fault() != page.length()) {
            return Due.STATE;
        }
        lines = new ArrayList<>();
        sights = new ArrayList<>();
        keptLines = null;
        for (String s : page.split(",")) {
            lines.add(new Line("tfsbo".indexOf(s.charAt(0)), Integer.parseInt(s.substring(1, 3)),
                    Integer.parseInt(s.substring(3, 6)), Integer.parseInt(s.substring(7, 9)),
                    Integer.parseInt(s.substring(9, 11))));
        }
        page = "";
        desk = true;
        reads++;
        return lines.size();
    }

    int sorts(int t) {
        int bits = 0;
        for (int kind = 0; kind < 5; kind++) {
            boolean so = true;
            for (Sight s : sights) {
                so &= s.tariff != t || lines.get(t).price(kind, s.quantity) == s.price;
            }
            bits += so ? 1 << kind : 0;
        }
        return bits;
    }

    int ask(int t) {
        int bits = sorts(t);
        int best = -1;
        int least = 99;
        for (int q = lines.get(t).first; q <= lines.get(t).last; q++) {
            java.util.HashMap<Long, Integer> groups = new java.util.HashMap<>();
            for (int kind = 0; kind < 5; kind++) {
                if ((bits >> kind) % 2 == 1) {
                    groups.merge(lines.get(t).price(kind, q), 1, Integer::sum);
                }
            }
            int worst = groups.values().stream().mapToInt(v -> v).max().orElse(99);
            if (worst < least) {
                least = worst;
                best = q;
            }
        }
        return best;
    }

    int tariff(int t, int what) {
        if (t < 0 || t >= lines.size()) {
            return Due.UNKNOWN;
        }
        Line line = lines.get(t);
        int found = 0;
        switch (what) {
            case 0: return line.kind;
            case 1: return line.first;
            case 2: return line.last;
            case 3:
                for (int standing : tree(lines)) {
                    found += standing == t ? 1 : 0;
                }
                return found;
            case 4:
                for (int q = 0; q < 64; q++) {
                    found += lowest(lines, q) == t ? 1 : 0;
                }
                return found;
            case 5: return sorts(t);
            case 6: return ask(t);
            default: return Due.OUTSIDE;
        }
    }

    int as(int t, int kind) {
        if (t < 0 || t >= lines.size()) {
            return Due.UNKNOWN;
        }
        if (kind < 0 || kind > 4) {
            return Due.OUTSIDE;
        }
        int own = lines.get(t).kind;
        return kind == 0 || kind == own || own == 4 && kind == 3 ? t : -1;
    }

    long price(int t, int q) {
        if (t < 0 || t >= lines.size() || q < 0 || q > 63) {
            return Due.UNKNOWN;
        }
        return lines.get(t).has(q) ? Due.MORE + lines.get(t).price(lines.get(t).kind, q) : Due.OUTSIDE;
    }

    int node(int n, int what) {
        if (n < 1 || n > 127) {
            return Due.UNKNOWN;
        }
        int low = 0;
        int high = 63;
        String way = Integer.toBinaryString(n).substring(1);
        for (char c : way.toCharArray()) {
            int middle = (low + high) / 2;
            low = c == '0' ? low : middle + 1;
            high = c == '0' ? middle : high;
        }
        return what == 0 ? tree(lines)[n] : what == 1 ? low : what == 2 ? high
                : what == 3 ? (low + high) / 2 : Due.OUTSIDE;
    }

    Line asked(int kind, int rate, int base, int span) {
        if (kind < 0 || kind > 4 || span < 0 || span / 100 > 63 || span % 100 > 63 || span / 100 > span % 100) {
            return null;
        }
        Line line = new Line(kind, rate, base, span / 100, span % 100);
        return line.tooGreat() ? null : line;
    }

    int offer(int kind, int rate, int base, int span, boolean stays) {
        Line line = asked(kind, rate, base, span);
        if (line == null) {
            return Due.OUTSIDE;
        }
        if (!desk) {
            return Due.STATE;
        }
        if (lines.size() == 40) {
            return Due.FULL;
        }
        List<Line> more = new ArrayList<>(lines);
        more.add(line);
        int told = 0;
        if (stays) {
            int[] before = tree(lines);
            int[] after = tree(more);
            for (int n = 1; n <= 127; n++) {
                told += before[n] != after[n] ? 1 : 0;
            }
            lines = more;
        } else {
            for (int q = 0; q < 64; q++) {
                told += lowest(more, q) == lines.size() ? 1 : 0;
            }
        }
        return told;
    }

    int undo() {
        if (lines.isEmpty()) {
            return Due.STATE;
        }
        lines = new ArrayList<>(lines.subList(0, lines.size() - 1));
        return lines.size();
    }

    int cheapest(int q) {
        return q < 0 || q > 63 || !desk ? Due.UNKNOWN : lowest(lines, q);
    }

    long cost(int q) {
        int t = cheapest(q);
        return t < 0 ? t : price(t, q);
    }

    List<int[]> pieces() {
        List<int[]> all = new ArrayList<>();
        int latest = -1;
        for (int q = 0; q < 64; q++) {
            int t = lowest(lines, q);
            if (t != -1 && t == latest) {
                all.get(all.size() - 1)[2] = q;
            } else if (t != -1) {
                all.add(new int[] {t, q, q});
            }
            latest = t;
        }
        return all;
    }

    int piece(int p, int what) {
        List<int[]> all = pieces();
        if (p < 0 || p >= all.size()) {
            return Due.UNKNOWN;
        }
        return what < 0 || what > 2 ? Due.OUTSIDE : all.get(p)[what];
    }

    int bargain(int from, int to) {
        if (from < 0 || to > 63 || from > to) {
            return Due.OUTSIDE;
        }
        if (!desk) {
            return Due.STATE;
        }
        int best = -1;
        for (int q = to; q >= from; q--) {
            if (cost(q) != -1 && (best == -1 || cost(q) <= cost(best))) {
                best = q;
            }
        }
        return best;
    }

    int crossing(int one, int other) {
        if (Math.min(one, other) < 0 || Math.max(one, other) >= lines.size() || one == other) {
            return Due.UNKNOWN;
        }
        for (int q = 0; q < 64; q++) {
            if (lines.get(one).has(q) && lines.get(other).has(q) && better(lines, other, one, q)) {
                return q;
            }
        }
        return -1;
    }

    int see(int t, int q, int price) {
        if (t < 0 || t >= lines.size() || q < 0 || q > 63) {
            return Due.UNKNOWN;
        }
        if (sights.size() == 6) {
            return Due.FULL;
        }
        sights.add(new Sight(t, q, price));
        return sights.size();
    }

    int forget() {
        int had = sights.size();
        sights = new ArrayList<>();
        return had;
    }

    private long seed;

    private int draw(int of) {
        seed = (1103515245L * seed + 12345L) % (1L << 31);
        return (int) (seed / 65536 % of);
    }

    int drawn(int times, int from, int what) {
        if (times < 1 || times > 30 || from < 0 || what < 0 || what > 2) {
            return Due.OUTSIDE;
        }
        if (!desk) {
            return Due.STATE;
        }
        List<Line> more = new ArrayList<>(lines);
        seed = from;
        for (int i = 0; i < times; i++) {
            int kind = draw(5);
            int rate = draw(19) - 9;
            int base = draw(199) - 99;
            int first = draw(64);
            more.add(new Line(kind, rate, base, first, first + draw(64 - first)));
        }
        int told = 0;
        if (what == 0) {
            for (int q = 0; q < 64; q++) {
                told += lowest(more, q) >= lines.size() ? 1 : 0;
            }
        } else if (what == 1) {
            for (int standing : tree(more)) {
                told += standing >= lines.size() ? 1 : 0;
            }
        } else {
            told = (int) seed;
        }
        return told;
    }

    int image() {
        if (!desk) {
            return Due.STATE;
        }
        keptLines = new ArrayList<>(lines);
        keptSights = new ArrayList<>(sights);
        return lines.size();
    }

    int restore() {
        if (keptLines == null) {
            return Due.STATE;
        }
        lines = new ArrayList<>(keptLines);
        sights = new ArrayList<>(keptSights);
        return lines.size();
    }

    int count(int what) {
        int found = 0;
        switch (what) {
            case 0: return lines.size();
            case 1:
                for (int standing : tree(lines)) {
                    found += standing >= 0 ? 1 : 0;
                }
                return found;
            case 2: return pieces().size();
            case 3:
                for (int q = 0; desk && q < 64; q++) {
                    found += lowest(lines, q) == -1 ? 1 : 0;
                }
                return found;
            case 4:
                for (int t = 0; t < lines.size(); t++) {
                    found += tariff(t, 4) == 0 ? 1 : 0;
                }
                return found;
            case 5: return sights.size();
            case 6: return page.length();
            case 7: return reads;
            default: return Due.OUTSIDE;
        }
    }

    long digest() {
        List<Long> numbers = new ArrayList<>();
        for (int t = 0; t < lines.size(); t++) {
            for (int what = 0; what <= 6; what++) {
                numbers.add((long) tariff(t, what));
            }
        }
        for (int q = 0; desk && q < 64; q++) {
            numbers.add((long) cheapest(q));
            numbers.add(cost(q));
        }
        int[] stands = tree(lines);
        for (int n = 1; desk && n <= 127; n++) {
            numbers.add((long) stands[n]);
        }
        if (desk) {
            numbers.add((long) bargain(0, 63));
        }
        for (char c : page.toCharArray()) {
            numbers.add((long) c);
        }
        for (int what = 0; what <= 7; what++) {
            numbers.add((long) count(what));
        }
        long h = 1361;
        for (long number : numbers) {
            h = 31 * h + number;
        }
        return h;
    }

    private static void addStarts(Set<String> starts, String text) {
        for (int length = 1; length <= text.length(); length++) {
            starts.add(text.substring(0, length));
        }
    }

    private static void listStarts() {
        for (int i = 0; i < 5 * 20 * 200; i++) {
            int rate = i / 5 % 20;
            int base = i / 100;
            addStarts(HEAD_STARTS, String.format("%c%c%d%c%02d@", "tfsbo".charAt(i % 5),
                    rate < 10 ? '+' : '-', rate % 10, base < 100 ? '+' : '-', base % 100));
        }
        for (int first = 0; first < 64; first++) {
            for (int last = first; last < 64; last++) {
                addStarts(SPAN_STARTS, String.format("%02d%02d", first, last));
            }
        }
    }
}
