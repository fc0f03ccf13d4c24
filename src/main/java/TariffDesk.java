import java.util.Arrays;

/** A price desk that keeps the lowest of many straight tariffs; README.md says how to use it. */
public final class TariffDesk {
    public static final int NONE = -1, UNKNOWN = -101, OUTSIDE = -102, STATE = -103, FULL = -104;

    private static final int QUANTITIES = 64, NODES = 127, LEVELS = 7;
    private static final int PLAIN = 0, FLAT = 1, STEEP = 2, BEGUN = 3, SALE = 4, KINDS = 5;
    private static final String KIND_LETTERS = "tfsbo";
    private static final int MOST_LETTERS = 50, MOST_TARIFFS = 40, MOST_DRAWN = 30, MOST_SEEN = 6;
    /** Prices can be less than nothing; told as so much more they are never taken for a refusal. */
    private static final long TOLD_MORE = 3000000000L;
    private static final int LEAST_NUMBER = -2147483648, GREATEST_NUMBER = 2147483647;
    private static final int ACCEPTED = 0;

    private final Page page;
    private final Tariffs tariffs;
    private final Tree tree;
    private final Seen seen;
    private final Draws draws;
    /** The tariff that a call speaks of before it is offered: one row, so that no call makes objects. */
    private final Tariff asked;
    private final Tariffs keptTariffs;
    private final Seen keptSeen;
    private boolean hasDesk;
    private boolean hasImage;
    private int desksRead;

    public TariffDesk() {
        page = new Page();
        tariffs = new Tariffs(MOST_TARIFFS + MOST_DRAWN);
        tree = new Tree(tariffs);
        seen = new Seen();
        draws = new Draws();
        asked = new Tariff();
        keptTariffs = new Tariffs(MOST_TARIFFS);
        keptSeen = new Seen();
    }

    // ---- the desk

    public int letter(int code) {
        if (code < 32 || code > 126) {
            return OUTSIDE;
        }
        return page.write(code) ? page.length : FULL;
    }

    public int blank() {
        int had = page.length;
        page.length = 0;
        return had;
    }

    public int fault() {
        return page.firstWrong();
    }

    public int desk() {
        if (!page.isWholeDesk()) {
            return STATE;
        }
        tree.empty();
        seen.size = 0;
        hasImage = false;
        hasDesk = true;
        desksRead++;
        for (int start = 0; start < page.length; start += Page.STEP) {
            page.readTariff(start, asked);
            tree.take(asked);
        }
        page.length = 0;
        return tariffs.size;
    }

    // ---- tariffs, nodes

    public int tariff(int tariff, int what) {
        if (!tariffs.hasNumber(tariff)) {
            return UNKNOWN;
        }
        Tariff row = tariffs.at(tariff);
        switch (what) {
            case 0: return row.kind;
            case 1: return row.first;
            case 2: return row.last;
            case 3: return tree.nodesOf(tariff, tariff);
            case 4: return quantitiesOf(tariff, tariff);
            case 5: return seen.sortsOf(tariff, row);
            case 6: return seen.nextToAsk(tariff, row);
            default: return OUTSIDE;
        }
    }

    public int as(int tariff, int kind) {
        if (!tariffs.hasNumber(tariff)) {
            return UNKNOWN;
        }
        if (!isKind(kind)) {
            return OUTSIDE;
        }
        return tariffs.at(tariff).isOf(kind) ? tariff : NONE;
    }

    public long price(int tariff, int quantity) {
        if (!tariffs.hasNumber(tariff) || !isQuantity(quantity)) {
            return UNKNOWN;
        }
        Tariff row = tariffs.at(tariff);
        return row.spans(quantity) ? TOLD_MORE + row.priceFor(quantity) : OUTSIDE;
    }

    public int node(int node, int what) {
        if (node < 1 || node > NODES) {
            return UNKNOWN;
        }
        switch (what) {
            case 0: return tree.standingAt(node);
            case 1: return Tree.firstOf(node);
            case 2: return Tree.lastOf(node);
            case 3: return Tree.middleOf(node);
            default: return OUTSIDE;
        }
    }

    // ---- what is done

    public int offer(int kind, int rate, int base, int span) {
        int refusal = refusalOf(kind, rate, base, span);
        return refusal == ACCEPTED ? tree.take(asked) : refusal;
    }

    public int undo() {
        if (tariffs.size == 0) {
            return STATE;
        }
        tree.takeBack();
        return tariffs.size;
    }

    // ---- what is cheapest

    public int cheapest(int quantity) {
        if (!isQuantity(quantity) || !hasDesk) {
            return UNKNOWN;
        }
        return tree.lowestFor(quantity);
    }

    public long cost(int quantity) {
        if (!isQuantity(quantity) || !hasDesk) {
            return UNKNOWN;
        }
        int lowest = tree.lowestFor(quantity);
        return lowest == NONE ? NONE : TOLD_MORE + tariffs.at(lowest).priceFor(quantity);
    }

    public int piece(int piece, int what) {
        int first = firstOfPiece(piece);
        if (first == NONE) {
            return UNKNOWN;
        }
        switch (what) {
            case 0: return tree.lowestFor(first);
            case 1: return first;
            case 2: return lastOfPiece(first);
            default: return OUTSIDE;
        }
    }

    public int bargain(int from, int to) {
        if (!isQuantity(from) || !isQuantity(to) || from > to) {
            return OUTSIDE;
        }
        if (!hasDesk) {
            return STATE;
        }
        int best = NONE;
        long least = 0L;
        for (int quantity = from; quantity <= to; quantity++) {
            int lowest = tree.lowestFor(quantity);
            if (lowest != NONE) {
                long price = tariffs.at(lowest).priceFor(quantity);
                if (best == NONE || price < least) {
                    best = quantity;
                    least = price;
                }
            }
        }
        return best;
    }

    public int crossing(int one, int other) {
        if (!tariffs.hasNumber(one) || !tariffs.hasNumber(other) || one == other) {
            return UNKNOWN;
        }
        int from = Math.max(tariffs.at(one).first, tariffs.at(other).first);
        int to = Math.min(tariffs.at(one).last, tariffs.at(other).last);
        for (int quantity = from; quantity <= to; quantity++) {
            if (tariffs.isBetter(other, one, quantity)) {
                return quantity;
            }
        }
        return NONE;
    }

    public int would(int kind, int rate, int base, int span) {
        int refusal = refusalOf(kind, rate, base, span);
        if (refusal != ACCEPTED) {
            return refusal;
        }
        int won = 0;
        for (int quantity = asked.first; quantity <= asked.last; quantity++) {
            int lowest = tree.lowestFor(quantity);
            // the new one would have the greatest number, so a like price does not win
            if (lowest == NONE || asked.priceFor(quantity) < tariffs.at(lowest).priceFor(quantity)) {
                won++;
            }
        }
        return won;
    }

    // ---- what is seen

    public int see(int tariff, int quantity, int price) {
        if (!tariffs.hasNumber(tariff) || !isQuantity(quantity)) {
            return UNKNOWN;
        }
        return seen.write(tariff, quantity, price) ? seen.size : FULL;
    }

    public int forget() {
        int had = seen.size;
        seen.size = 0;
        return had;
    }

    public int drawn(int times, int seed, int what) {
        if (times < 1 || times > MOST_DRAWN || seed < 0 || what < 0 || what > 2) {
            return OUTSIDE;
        }
        if (!hasDesk) {
            return STATE;
        }
        int before = tariffs.size;
        draws.seed = seed;
        for (int i = 0; i < times; i++) {
            draws.drawTariff(asked);
            tree.take(asked);
        }
        int told = draws.seed;
        if (what == 0) {
            told = quantitiesOf(before, before + times - 1);
        } else if (what == 1) {
            told = tree.nodesOf(before, before + times - 1);
        }
        for (int i = 0; i < times; i++) {
            tree.takeBack();
        }
        return told;
    }

    // ---- what is told of all

    public int image() {
        if (!hasDesk) {
            return STATE;
        }
        keptTariffs.copyFrom(tariffs);
        keptSeen.copyFrom(seen);
        hasImage = true;
        return tariffs.size;
    }

    public int restore() {
        if (!hasImage) {
            return STATE;
        }
        // what stands, and what can be undone, follow from the tariffs and their order alone
        tree.empty();
        for (int number = 0; number < keptTariffs.size; number++) {
            tree.take(keptTariffs.at(number));
        }
        seen.copyFrom(keptSeen);
        return tariffs.size;
    }

    public int count(int what) {
        switch (what) {
            case 0: return tariffs.size;
            case 1: return tree.nodesOf(0, tariffs.size - 1);
            case 2: return pieces();
            case 3: return hasDesk ? quantitiesOf(NONE, NONE) : 0;
            case 4: return tariffsNeverLowest();
            case 5: return seen.size;
            case 6: return page.length;
            case 7: return desksRead;
            default: return OUTSIDE;
        }
    }

    public long digest() {
        long h = 1361L;
        for (int number = 0; number < tariffs.size; number++) {
            for (int what = 0; what <= 6; what++) {
                h = mixed(h, tariff(number, what));
            }
        }
        if (hasDesk) {
            h = mixedWithTree(h);
        }
        for (int place = 0; place < page.length; place++) {
            h = mixed(h, page.letterAt(place));
        }
        for (int what = 0; what <= 7; what++) {
            h = mixed(h, count(what));
        }
        return h;
    }

    private long mixedWithTree(long start) {
        long h = start;
        for (int quantity = 0; quantity < QUANTITIES; quantity++) {
            h = mixed(h, cheapest(quantity));
            h = mixed(h, cost(quantity));
        }
        for (int node = 1; node <= NODES; node++) {
            h = mixed(h, tree.standingAt(node));
        }
        return mixed(h, bargain(0, QUANTITIES - 1));
    }

    private static long mixed(long h, long number) {
        return 31L * h + number;
    }

    private static boolean isQuantity(int number) {
        return number >= 0 && number < QUANTITIES;
    }

    private static boolean isKind(int number) {
        return number >= 0 && number < KINDS;
    }

    /** Why such a tariff can't be offered; if ACCEPTED, it is the one that is asked for then. */
    private int refusalOf(int kind, int rate, int base, int span) {
        int first = span / 100;
        int last = span % 100;
        if (!isKind(kind) || span < 0 || !isQuantity(first) || !isQuantity(last) || first > last) {
            return OUTSIDE;
        }
        asked.write(kind, rate, base, first, last);
        if (asked.isTooGreat()) {
            return OUTSIDE;
        }
        if (!hasDesk) {
            return STATE;
        }
        return tariffs.size >= MOST_TARIFFS ? FULL : ACCEPTED;
    }

    /** For how many quantities one of these tariffs is cheapest (NONE to NONE: for how many none is). */
    private int quantitiesOf(int from, int to) {
        int found = 0;
        for (int quantity = 0; quantity < QUANTITIES; quantity++) {
            int lowest = tree.lowestFor(quantity);
            if (lowest >= from && lowest <= to) {
                found++;
            }
        }
        return found;
    }

    private int tariffsNeverLowest() {
        int found = 0;
        for (int number = 0; number < tariffs.size; number++) {
            if (quantitiesOf(number, number) == 0) {
                found++;
            }
        }
        return found;
    }

    private boolean beginsPiece(int quantity) {
        int lowest = tree.lowestFor(quantity);
        return lowest != NONE && (quantity == 0 || tree.lowestFor(quantity - 1) != lowest);
    }

    private int pieces() {
        int found = 0;
        for (int quantity = 0; quantity < QUANTITIES; quantity++) {
            if (beginsPiece(quantity)) {
                found++;
            }
        }
        return found;
    }

    private int firstOfPiece(int piece) {
        int found = 0;
        for (int quantity = 0; quantity < QUANTITIES; quantity++) {
            if (beginsPiece(quantity)) {
                if (found == piece) {
                    return quantity;
                }
                found++;
            }
        }
        return NONE;
    }

    private int lastOfPiece(int first) {
        int lowest = tree.lowestFor(first);
        int last = first;
        while (last < QUANTITIES - 1 && tree.lowestFor(last + 1) == lowest) {
            last++;
        }
        return last;
    }

    /** The letters from which a desk is read. */
    private static final class Page {
        /** From the start of one tariff to that of the next one: eleven letters and a comma. */
        static final int STEP = 12;
        private static final int DESK_LETTERS = 4 * STEP - 1;

        private final int[] letters = new int[MOST_LETTERS];
        int length;

        boolean write(int code) {
            if (length < 0 || length >= letters.length) {
                return false;
            }
            letters[length] = code;
            length++;
            return true;
        }

        int letterAt(int place) {
            return place >= 0 && place < letters.length ? letters[place] : 0;
        }

        int firstWrong() {
            int place = 0;
            while (place < length && goesOn(place)) {
                place++;
            }
            return place;
        }

        boolean isWholeDesk() {
            return length % STEP == STEP - 1 && firstWrong() == length;
        }

        /** Whether some desk has this letter here, all those ahead of it being right. */
        private boolean goesOn(int place) {
            if (place >= DESK_LETTERS) {
                return false;
            }
            int letter = letterAt(place);
            switch (place % STEP) {
                case 0: return KIND_LETTERS.indexOf((char) letter) >= 0;
                case 1: case 3: return letter == '+' || letter == '-';
                case 2: case 4: case 5: return isDigit(letter);
                case 6: return letter == '@';
                case 7: return isDigit(letter) && digitAt(place) <= 6;
                case 8: return isDigit(letter) && pairAt(place - 1) <= 63;
                case 9: return isDigit(letter) && digitAt(place) <= 6 && digitAt(place) >= digitAt(place - 2);
                case 10: return isDigit(letter) && pairAt(place - 1) <= 63 && pairAt(place - 1) >= pairAt(place - 3);
                default: return letter == ',';
            }
        }

        void readTariff(int start, Tariff into) {
            int kind = KIND_LETTERS.indexOf((char) letterAt(start));
            int rate = signAt(start + 1) * digitAt(start + 2);
            int base = signAt(start + 3) * pairAt(start + 4);
            into.write(kind, rate, base, pairAt(start + 7), pairAt(start + 9));
        }

        private static boolean isDigit(int letter) {
            return letter >= '0' && letter <= '9';
        }

        private int signAt(int place) {
            return letterAt(place) == '-' ? -1 : 1;
        }

        private int digitAt(int place) {
            return letterAt(place) - '0';
        }

        private int pairAt(int place) {
            return 10 * digitAt(place) + digitAt(place + 1);
        }
    }

    /** One tariff: a row that is written anew, so that an offer makes no objects. */
    private static final class Tariff {
        int kind;
        int rate;
        int base;
        int first;
        int last;

        void write(int newKind, int newRate, int newBase, int newFirst, int newLast) {
            kind = newKind;
            rate = newRate;
            base = newBase;
            first = newFirst;
            last = newLast;
        }

        void copyFrom(Tariff other) {
            write(other.kind, other.rate, other.base, other.first, other.last);
        }

        boolean spans(int quantity) {
            return first <= quantity && quantity <= last;
        }

        boolean isOf(int asKind) {
            return asKind == PLAIN || asKind == kind || (asKind == BEGUN && kind == SALE);
        }

        long priceFor(int quantity) {
            return byRate(kind, quantity) + byBase(kind);
        }

        /** The price as if it was of that kind: longs, as other kinds than its own may be great. */
        long priceAs(int asKind, int quantity) {
            return byRate(asKind, quantity) + byBase(asKind);
        }

        private int byBase(int asKind) {
            return asKind == SALE ? Math.floorDiv(base, 2) : base;
        }

        private long byRate(int asKind, int quantity) {
            switch (asKind) {
                case FLAT: return 0L;
                case STEEP: return 2L * rate * quantity;
                case BEGUN: case SALE: return (long) rate * (quantity - first);
                default: return (long) rate * quantity;
            }
        }

        /** A tariff is straight: what fits at both ends of the span fits between them. */
        boolean isTooGreat() {
            boolean steepFits = kind != STEEP || fits(2L * rate);
            return !steepFits || !fitsFor(first) || !fitsFor(last);
        }

        private boolean fitsFor(int quantity) {
            return fits(byRate(kind, quantity)) && fits(priceFor(quantity));
        }

        private static boolean fits(long number) {
            return number >= LEAST_NUMBER && number <= GREATEST_NUMBER;
        }
    }

    /** Tariffs by their numbers; all rows are made at once and used again. */
    private static final class Tariffs {
        private final Tariff[] rows;
        int size;

        Tariffs(int most) {
            rows = new Tariff[Math.max(most, 1)];
            for (int number = 0; number < rows.length; number++) {
                rows[number] = new Tariff();
            }
        }

        boolean hasNumber(int number) {
            return number >= 0 && number < size;
        }

        /** Callers ask for numbers that there are; the test keeps any other from being an index. */
        Tariff at(int number) {
            return number >= 0 && number < rows.length ? rows[number] : rows[0];
        }

        void add(Tariff tariff) {
            if (size < rows.length) {
                at(size).copyFrom(tariff);
                size++;
            }
        }

        void copyFrom(Tariffs other) {
            size = 0;
            for (int number = 0; number < other.size; number++) {
                add(other.at(number));
            }
        }

        boolean isBetter(int one, int other, int quantity) {
            long onePrice = at(one).priceFor(quantity);
            long otherPrice = at(other).priceFor(quantity);
            return onePrice < otherPrice || (onePrice == otherPrice && one < other);
        }
    }

    /** Which tariff stands at which node, and what stood there before each offer. */
    private static final class Tree {
        /** A span of 1 to 62 has the most: two times nodes of 1, 2, 4, 8, 16 with all levels below them. */
        private static final int MOST_CHANGES = 30;
        private static final int GONE = 0;

        private final Tariffs tariffs;
        private final int[] stands = new int[NODES + 1];
        private final int[] changedNodes = new int[MOST_CHANGES * (MOST_TARIFFS + MOST_DRAWN)];
        private final int[] stoodBefore = new int[MOST_CHANGES * (MOST_TARIFFS + MOST_DRAWN)];
        private final int[] changesBefore = new int[MOST_TARIFFS + MOST_DRAWN];
        private int changes;
        /** The cheapest tariff of each quantity: kept, as most calls ask for many of them. */
        private final int[] lowest = new int[QUANTITIES];

        Tree(Tariffs offered) {
            tariffs = offered;
            Arrays.fill(stands, NONE);
            Arrays.fill(lowest, NONE);
        }

        void empty() {
            Arrays.fill(stands, NONE);
            Arrays.fill(lowest, NONE);
            tariffs.size = 0;
            changes = 0;
        }

        /** The tariff is offered: at how many nodes another one stands then. */
        int take(Tariff tariff) {
            int number = tariffs.size;
            if (number < 0 || number >= changesBefore.length) {
                return 0;
            }
            int before = changes;
            changesBefore[number] = before;
            tariffs.add(tariff);
            int next = tariff.first;
            for (int pushed = 0; pushed < QUANTITIES && next <= tariff.last; pushed++) {
                int node = widestNode(next, tariff.last);
                push(number, node);
                next = lastOf(node) + 1;
            }
            lowerBy(number, tariff);
            return changes - before;
        }

        void takeBack() {
            int number = tariffs.size - 1;
            if (number < 0 || number >= changesBefore.length) {
                return;
            }
            while (changes > changesBefore[number]) {
                changes--;
                putBack(changes);
            }
            for (int quantity = 0; quantity < QUANTITIES; quantity++) {
                if (lowest[quantity] == number) {
                    lowest[quantity] = bestAbove(quantity);
                }
            }
            tariffs.size = number;
        }

        int standingAt(int node) {
            return node >= 1 && node <= NODES ? stands[node] : NONE;
        }

        /** At how many nodes one of these tariffs stands. */
        int nodesOf(int from, int to) {
            int found = 0;
            for (int node = 1; node <= NODES; node++) {
                if (stands[node] >= from && stands[node] <= to) {
                    found++;
                }
            }
            return found;
        }

        int lowestFor(int quantity) {
            return isQuantity(quantity) ? lowest[quantity] : NONE;
        }

        static int firstOf(int node) {
            return node * sizeOf(node) - QUANTITIES;
        }

        static int lastOf(int node) {
            return firstOf(node) + sizeOf(node) - 1;
        }

        static int middleOf(int node) {
            return firstOf(node) + (sizeOf(node) - 1) / 2;
        }

        private static int sizeOf(int node) {
            int size = QUANTITIES;
            for (int above = node; above > 1; above /= 2) {
                size /= 2;
            }
            return size;
        }

        /** The widest node that begins with this quantity and ends no later than the last one. */
        private static int widestNode(int quantity, int last) {
            int node = QUANTITIES + quantity;
            while (node > 1 && node % 2 == 0 && lastOf(node / 2) <= last) {
                node /= 2;
            }
            return node;
        }

        private void push(int newcomer, int top) {
            int moving = newcomer;
            int node = top;
            for (int level = 0; level < LEVELS && node >= 1 && node <= NODES; level++) {
                int standing = stands[node];
                if (standing == NONE) {
                    put(node, moving);
                    return;
                }
                if (tariffs.isBetter(moving, standing, middleOf(node))) {
                    put(node, moving);
                    node = halfFor(standing, moving, node);
                    moving = standing;
                } else {
                    node = halfFor(moving, standing, node);
                }
            }
        }

        private int halfFor(int loser, int winner, int node) {
            if (tariffs.isBetter(loser, winner, firstOf(node))) {
                return 2 * node;
            }
            return tariffs.isBetter(loser, winner, lastOf(node)) ? 2 * node + 1 : GONE;
        }

        private void put(int node, int tariff) {
            if (isLogPlace(changes) && node >= 1 && node <= NODES) {
                changedNodes[changes] = node;
                stoodBefore[changes] = stands[node];
                changes++;
                stands[node] = tariff;
            }
        }

        private void putBack(int change) {
            if (isLogPlace(change) && changedNodes[change] >= 1 && changedNodes[change] <= NODES) {
                stands[changedNodes[change]] = stoodBefore[change];
            }
        }

        private boolean isLogPlace(int change) {
            return change >= 0 && change < changedNodes.length && change < stoodBefore.length;
        }

        private void lowerBy(int newcomer, Tariff tariff) {
            for (int quantity = 0; quantity < QUANTITIES; quantity++) {
                int old = lowest[quantity];
                if (tariff.spans(quantity) && (old == NONE || tariffs.isBetter(newcomer, old, quantity))) {
                    lowest[quantity] = newcomer;
                }
            }
        }

        private int bestAbove(int quantity) {
            int best = NONE;
            for (int node = QUANTITIES + quantity; node >= 1; node /= 2) {
                int standing = standingAt(node);
                if (standing != NONE && (best == NONE || tariffs.isBetter(standing, best, quantity))) {
                    best = standing;
                }
            }
            return best;
        }
    }

    /** What tariffs were seen to cost, and of which kinds they can be by that. */
    private static final class Seen {
        private final int[] numbers = new int[MOST_SEEN];
        private final int[] quantities = new int[MOST_SEEN];
        private final int[] prices = new int[MOST_SEEN];
        private final long[] pricesByKind = new long[KINDS];
        int size;

        boolean write(int number, int quantity, int price) {
            if (size < 0 || size >= MOST_SEEN) {
                return false;
            }
            numbers[size] = number;
            quantities[size] = quantity;
            prices[size] = price;
            size++;
            return true;
        }

        void copyFrom(Seen other) {
            size = 0;
            for (int i = 0; i < other.size && i < MOST_SEEN; i++) {
                write(other.numbers[i], other.quantities[i], other.prices[i]);
            }
        }

        int sortsOf(int number, Tariff tariff) {
            int sorts = 0;
            for (int kind = 0; kind < KINDS; kind++) {
                if (canBe(kind, number, tariff)) {
                    sorts |= 1 << kind;
                }
            }
            return sorts;
        }

        int nextToAsk(int number, Tariff tariff) {
            int sorts = sortsOf(number, tariff);
            int best = NONE;
            int fewest = KINDS + 1;
            for (int quantity = tariff.first; sorts != 0 && quantity <= tariff.last; quantity++) {
                int left = leftAtWorst(sorts, tariff, quantity);
                if (left < fewest) {
                    fewest = left;
                    best = quantity;
                }
            }
            return best;
        }

        private boolean canBe(int kind, int number, Tariff tariff) {
            for (int i = 0; i < size && i < MOST_SEEN; i++) {
                if (numbers[i] == number && tariff.priceAs(kind, quantities[i]) != prices[i]) {
                    return false;
                }
            }
            return true;
        }

        /** Of the kinds that cost the same for the quantity an answer leaves all. */
        private int leftAtWorst(int sorts, Tariff tariff, int quantity) {
            int worst = 0;
            for (int kind = 0; kind < KINDS; kind++) {
                pricesByKind[kind] = tariff.priceAs(kind, quantity);
                int alike = 0;
                for (int other = 0; other <= kind; other++) {
                    if ((sorts >> other & 1) == 1 && pricesByKind[other] == pricesByKind[kind]) {
                        alike++;
                    }
                }
                if ((sorts >> kind & 1) == 1) {
                    worst = Math.max(worst, alike);
                }
            }
            return worst;
        }
    }

    /** Draws by a seed. */
    private static final class Draws {
        int seed;

        /** The order of the draws is promised: kind, rate, base, first, last. */
        void drawTariff(Tariff into) {
            int kind = below(KINDS);
            int rate = below(19) - 9;
            int base = below(199) - 99;
            int first = below(QUANTITIES);
            into.write(kind, rate, base, first, first + below(QUANTITIES - first));
        }

        private int below(int bound) {
            // the rest by 2 to the 31 is the lower 31 bits, wherever the product wraps
            seed = (1103515245 * seed + 12345) & GREATEST_NUMBER;
            return bound < 1 ? 0 : seed / 65536 % bound;
        }
    }
}
