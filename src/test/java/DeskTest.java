/** Promises 1 to 5: a new object, letter, blank, fault, desk. */
public final class DeskTest {
    public static void main(String[] args) {
        promise1();
        promise2();
        promise3();
        promise4();
        promise5();
        Due.end();
    }

    private static void promise1() {
        TariffDesk x = new TariffDesk();
        for (int what = 0; what <= 7; what++) {
            Due.is("new: count(" + what + ")", x.count(what), 0);
        }
        Due.is("new: fault()", x.fault(), 0);
        Due.is("new: blank()", x.blank(), 0);
        Due.is("new: forget()", x.forget(), 0);
        Due.is("new: desk()", x.desk(), Due.STATE);
        Due.is("new: tariff(0, 0)", x.tariff(0, 0), Due.UNKNOWN);
        Due.is("new: as(0, 0)", x.as(0, 0), Due.UNKNOWN);
        Due.is("new: price(0, 0)", x.price(0, 0), Due.UNKNOWN);
        Due.is("new: offer", x.offer(0, 1, 1, 63), Due.STATE);
        Due.is("new: undo()", x.undo(), Due.STATE);
        Due.is("new: cheapest(0)", x.cheapest(0), Due.UNKNOWN);
        Due.is("new: cost(0)", x.cost(0), Due.UNKNOWN);
        Due.is("new: piece(0, 0)", x.piece(0, 0), Due.UNKNOWN);
        Due.is("new: bargain(0, 63)", x.bargain(0, 63), Due.STATE);
        Due.is("new: crossing(0, 1)", x.crossing(0, 1), Due.UNKNOWN);
        Due.is("new: would", x.would(0, 1, 1, 63), Due.STATE);
        Due.is("new: see(0, 0, 0)", x.see(0, 0, 0), Due.UNKNOWN);
        Due.is("new: drawn(1, 0, 0)", x.drawn(1, 0, 0), Due.STATE);
        Due.is("new: image()", x.image(), Due.STATE);
        Due.is("new: restore()", x.restore(), Due.STATE);
        long h = 1361;
        for (int what = 0; what <= 7; what++) {
            h = 31 * h;
        }
        Due.is("new: digest()", x.digest(), h);
    }

    private static void promise2() {
        TariffDesk x = new TariffDesk();
        int[] outside = {31, 127, 0, -1, Integer.MIN_VALUE, Integer.MAX_VALUE, 116 + 65536};
        for (int code : outside) {
            Due.is("letter(" + code + ")", x.letter(code), Due.OUTSIDE);
        }
        Due.is("letter(32)", x.letter(32), 1);
        Due.is("letter(126)", x.letter(126), 2);
        for (int n = 3; n <= 50; n++) {
            Due.is("letter no. " + n, x.letter(116), n);
        }
        Due.is("letter no. 51", x.letter(116), Due.FULL);
        Due.is("OUTSIDE comes ahead of FULL", x.letter(127), Due.OUTSIDE);
        Due.is("refused letters change nothing", x.count(6), 50);
        Due.is("the 50th is kept", x.blank(), 50);
        Due.is("after blank() there is room", x.letter(116), 1);
    }

    private static void promise3() {
        TariffDesk x = Due.typed(new TariffDesk(), "t+1");
        Due.is("blank()", x.blank(), 3);
        Due.is("blank() again", x.blank(), 0);
        Due.is("count(6)", x.count(6), 0);
        Due.typed(x, "f+1+11@0000");
        Due.is("what was there is gone", x.desk(), 1);
        Due.is("the DESK stays", x.blank(), 0);
        Due.is("count(0)", x.count(0), 1);
    }

    private static void faultOf(String text, int place) {
        TariffDesk x = Due.typed(new TariffDesk(), text);
        Due.is("fault() of \"" + text + "\"", x.fault(), place);
        Due.is("fault() changes nothing", x.count(6), text.length());
    }

    private static void promise4() {
        faultOf("", 0);
        for (int code = 32; code <= 126; code++) {
            char c = (char) code;
            boolean digit = c >= '0' && c <= '9';
            faultOf("" + c, "tfsbo".indexOf(c) >= 0 ? 1 : 0);
            faultOf("t" + c, c == '+' || c == '-' ? 2 : 1);
            faultOf("t+" + c, digit ? 3 : 2);
            faultOf("t+1" + c, c == '+' || c == '-' ? 4 : 3);
            faultOf("t+1-" + c, digit ? 5 : 4);
            faultOf("t+1-0" + c, digit ? 6 : 5);
            faultOf("t+1-00" + c, c == '@' ? 7 : 6);
            faultOf("t+1-00@" + c, c >= '0' && c <= '6' ? 8 : 7);
            faultOf("t+1-00@5" + c, digit ? 9 : 8);
            faultOf("t+1-00@6" + c, c >= '0' && c <= '3' ? 9 : 8);
            faultOf("t+1-00@29" + c, c >= '2' && c <= '6' ? 10 : 9);
            faultOf("t+1-00@63" + c, c == '6' ? 10 : 9);
            faultOf("t+1-00@295" + c, digit ? 11 : 10);
            faultOf("t+1-00@292" + c, c == '9' ? 11 : 10);
            faultOf("t+1-00@296" + c, c >= '0' && c <= '3' ? 11 : 10);
            faultOf("t+1-00@626" + c, c == '2' || c == '3' ? 11 : 10);
            faultOf("t+1-00@0063" + c, c == ',' ? 12 : 11);
            faultOf("t+1-00@0063," + c, "tfsbo".indexOf(c) >= 0 ? 13 : 12);
        }
        String four = "t+1-00@0063,f-0+99@1010,s+9-00@5960,b+0+00@6363";
        faultOf(four, 47);
        faultOf(four + ",", 47);
        faultOf(four + ",o+", 47);
        faultOf("t+1-00@0063,f-0+99@1010,s+9-00@5958,b", 34);
        faultOf(" t+1-00@0063", 0);
    }

    private static void noDesk(String text) {
        TariffDesk x = Due.typed(new TariffDesk(), text);
        Due.is("desk() of \"" + text + "\"", x.desk(), Due.STATE);
        Due.is("THE PAGE stays", x.count(6), text.length());
        Due.is("none was read", x.count(7), 0);
        Due.is("there is no DESK", x.cheapest(0), Due.UNKNOWN);
    }

    private static void promise5() {
        noDesk("");
        noDesk("t+1+00@006");
        noDesk("t+1+00@0063,");
        noDesk("t+1+00@0063,t");
        noDesk("x+1+00@0063");
        noDesk("t+1+00@0063,t+1+00@0063,t+1+00@0063,t+1+00@0063,");
        noDesk("t+1+00@0063,t+1+00@0063,t+1+00@0063,t+1+00@0064");

        TariffDesk x = Due.desk("s-9-99@0063,b+8+07@1020,t-0+98@6363,o-1-11@0500".substring(0, 35));
        Due.is("STEEP price(0, 1)", x.price(0, 1), Due.MORE - 18 - 99);
        Due.is("BEGUN price(1, 20)", x.price(1, 20), Due.MORE + 80 + 7);
        Due.is("TARIFF price(2, 63)", x.price(2, 63), Due.MORE + 98);
        Due.is("THE PAGE is empty", x.count(6), 0);
        Due.is("one was read", x.count(7), 1);
        x.image();
        x.see(0, 0, 5);
        x.offer(0, 1, 1, 63);

        Due.typed(x, "o-1-11@0508,f+7+03@4041,");
        String before = Due.state(x);
        Due.is("a page that ends with a comma", x.desk(), Due.STATE);
        Due.is("refused, nothing changes", before.equals(Due.state(x)) ? 1 : 0, 1);
        x.blank();
        Due.typed(x, "o-1-11@0508,f+7+03@4041");
        Due.is("another DESK", x.desk(), 2);
        Due.is("its TARIFFS alone", x.count(0), 2);
        Due.is("SALE price(0, 8)", x.price(0, 8), Due.MORE - 3 - 6);
        Due.is("FLAT price(1, 41)", x.price(1, 41), Due.MORE + 3);
        Due.is("nothing is SEEN", x.count(5), 0);
        Due.is("the IMAGE is of another DESK", x.restore(), Due.STATE);
        Due.is("two were read", x.count(7), 2);
        Due.is("GAPS", x.count(3), 58);
        Due.is("NODES", x.count(1), 5 - 1);
        Due.is("NODE 1 is free again", x.node(1, 0), Due.NONE);
        Due.is("undo()", x.undo(), 1);
        Due.is("undo()", x.undo(), 0);
        Due.is("nothing of the old DESK comes back", x.undo(), Due.STATE);
    }
}
