import java.util.function.ToLongFunction;

/** One call of the face, to be made on any object and on the model. */
record Call(String name, boolean onlyAsks, ToLongFunction<TariffDesk> onDesk, ToLongFunction<Model> onModel) {
    long on(TariffDesk x) {
        return onDesk.applyAsLong(x);
    }

    long on(Model m) {
        return onModel.applyAsLong(m);
    }

    private static Call does(String name, ToLongFunction<TariffDesk> onDesk, ToLongFunction<Model> onModel) {
        return new Call(name, false, onDesk, onModel);
    }

    private static Call asks(String name, ToLongFunction<TariffDesk> onDesk, ToLongFunction<Model> onModel) {
        return new Call(name, true, onDesk, onModel);
    }

    private static String named(String name, int... arguments) {
        StringBuilder told = new StringBuilder(name).append('(');
        for (int i = 0; i < arguments.length; i++) {
            told.append(i == 0 ? "" : ", ").append(arguments[i]);
        }
        return told.append(')').toString();
    }

    static Call letter(int code) {
        return does(named("letter", code), x -> x.letter(code), m -> m.letter(code));
    }

    static Call blank() {
        return does("blank()", TariffDesk::blank, Model::blank);
    }

    static Call fault() {
        return asks("fault()", TariffDesk::fault, Model::fault);
    }

    static Call desk() {
        return does("desk()", TariffDesk::desk, Model::desk);
    }

    static Call tariff(int t, int what) {
        return asks(named("tariff", t, what), x -> x.tariff(t, what), m -> m.tariff(t, what));
    }

    static Call as(int t, int kind) {
        return asks(named("as", t, kind), x -> x.as(t, kind), m -> m.as(t, kind));
    }

    static Call price(int t, int q) {
        return asks(named("price", t, q), x -> x.price(t, q), m -> m.price(t, q));
    }

    static Call node(int n, int what) {
        return asks(named("node", n, what), x -> x.node(n, what), m -> m.node(n, what));
    }

    static Call offer(int kind, int rate, int base, int span) {
        return does(named("offer", kind, rate, base, span), x -> x.offer(kind, rate, base, span),
                m -> m.offer(kind, rate, base, span, true));
    }

    static Call undo() {
        return does("undo()", TariffDesk::undo, Model::undo);
    }

    static Call cheapest(int q) {
        return asks(named("cheapest", q), x -> x.cheapest(q), m -> m.cheapest(q));
    }

    static Call cost(int q) {
        return asks(named("cost", q), x -> x.cost(q), m -> m.cost(q));
    }

    static Call piece(int p, int what) {
        return asks(named("piece", p, what), x -> x.piece(p, what), m -> m.piece(p, what));
    }

    static Call bargain(int from, int to) {
        return asks(named("bargain", from, to), x -> x.bargain(from, to), m -> m.bargain(from, to));
    }

    static Call crossing(int one, int other) {
        return asks(named("crossing", one, other), x -> x.crossing(one, other), m -> m.crossing(one, other));
    }

    static Call would(int kind, int rate, int base, int span) {
        return asks(named("would", kind, rate, base, span), x -> x.would(kind, rate, base, span),
                m -> m.offer(kind, rate, base, span, false));
    }

    static Call see(int t, int q, int price) {
        return does(named("see", t, q, price), x -> x.see(t, q, price), m -> m.see(t, q, price));
    }

    static Call forget() {
        return does("forget()", TariffDesk::forget, Model::forget);
    }

    static Call drawn(int times, int seed, int what) {
        return asks(named("drawn", times, seed, what), x -> x.drawn(times, seed, what), m -> m.drawn(times, seed, what));
    }

    static Call image() {
        return does("image()", TariffDesk::image, Model::image);
    }

    static Call restore() {
        return does("restore()", TariffDesk::restore, Model::restore);
    }

    static Call count(int what) {
        return asks(named("count", what), x -> x.count(what), m -> m.count(what));
    }

    static Call digest() {
        return asks("digest()", TariffDesk::digest, Model::digest);
    }
}
