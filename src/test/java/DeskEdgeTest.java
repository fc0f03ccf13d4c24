/** The limits of THE PAGE and of a DESK's letters, on both sides: promises 1 to 5 and what "Terms" says of a DESK. */
public final class DeskEdgeTest {
    private static final String ONE = "t+0+00@0000";
    private static final String FOUR = "t+1-00@0063,f-0+99@1010,s+9-99@5960,o+0-07@6363";

    public static void main(String[] args) {
        atFirstThereIsNone();
        lettersAreCounted();
        codesFrom32To126();
        blankOfNoneAndOfAll();
        eachPlaceOfEachTariff();
        oneToFourTariffs();
        allFirstsAndLasts();
        allRatesAndBases();
        kindsByTheLetter();
        numberedAndOfferedInOrder();
        anotherDeskIsGoneWithAllThatWas();
        aPageThatIsNoDeskChangesNothing();
        Due.end();
    }

    private static TariffDesk typed(String text) {
        return Due.typed(new TariffDesk(), text);
    }

    private static String tariffs(int many) {
        return (ONE + ",").repeat(many);
    }

    /** "At first there is none." */
    private static void atFirstThereIsNone() {
        TariffDesk x = new TariffDesk();
        Due.is("new: desk()", x.desk(), Due.STATE);
        Due.is("new: fault()", x.fault(), 0);
        Due.is("new: letters", x.count(6), 0);
        Due.is("new: a DESK was read", x.count(7), 0);
        Due.is("new: GAPS", x.count(3), 0);
        Due.is("new: cheapest()", x.cheapest(0), Due.UNKNOWN);
        Due.is("new: NODE 1", x.node(1, 0), Due.NONE);
        Due.typed(x, ONE);
        Due.is("a DESK that is typed only", x.cheapest(0), Due.UNKNOWN);
        Due.is("desk()", x.desk(), 1);
        Due.is("a DESK that is read", x.cheapest(0), 0);
        Due.is("GAPS", x.count(3), 63);
    }

    /** "how many THE PAGE has .. FULL: above 50" */
    private static void lettersAreCounted() {
        TariffDesk x = new TariffDesk();
        for (int n = 1; n <= 50; n++) {
            Due.is("letter no. " + n, x.letter(32 + n), n);
        }
        long before = x.digest();
        for (int i = 0; i < 3; i++) {
            Due.is("letter no. 51", x.letter(126), Due.FULL);
            Due.is("letters", x.count(6), 50);
        }
        Due.is("a refused letter changes nothing", x.digest(), before);
    }

    /** "OUTSIDE: code (32 to 126)" */
    private static void codesFrom32To126() {
        for (int code = -300; code <= 400; code++) {
            TariffDesk x = typed("t+");
            boolean fine = code >= 32 && code <= 126;
            Due.is("letter(" + code + ")", x.letter(code), fine ? 3 : Due.OUTSIDE);
            Due.is("letters after letter(" + code + ")", x.count(6), fine ? 3 : 2);
            Due.is("fault() after letter(" + code + ")", x.fault(), code >= '0' && code <= '9' ? 3 : 2);
        }
        for (int bit = 8; bit < 32; bit++) {
            Due.is("letter(), one bit too many", new TariffDesk().letter('t' + (1 << bit)), Due.OUTSIDE);
        }
    }

    /** "THE PAGE is empty: how many letters it had." */
    private static void blankOfNoneAndOfAll() {
        for (int letters = 0; letters <= 50; letters++) {
            TariffDesk x = typed(FOUR.concat(",,,").substring(0, letters));
            Due.is("blank() of " + letters, x.blank(), letters);
            Due.is("blank() of none", x.blank(), 0);
            Due.is("fault() of none", x.fault(), 0);
            Due.is("desk() of none", x.desk(), Due.STATE);
            Due.is("the first letter then", x.letter('t'), 1);
            Due.is("fault() of one", x.fault(), 1);
        }
    }

    private static boolean goesOn(int place, char c) {
        switch (place) {
            case 0: return "tfsbo".indexOf(c) >= 0;
            case 1: case 3: return "+-".indexOf(c) >= 0;
            case 2: case 4: case 5: return "0123456789".indexOf(c) >= 0;
            case 6: return c == '@';
            // FIRST is 60 to 63, LAST then 61 to 63
            case 7: return "0123456".indexOf(c) >= 0;
            case 8: return "0123".indexOf(c) >= 0;
            case 9: return c == '6';
            case 10: return "123".indexOf(c) >= 0;
            default: return c == ',';
        }
    }

    /** "the first letter of THE PAGE that no DESK has there, behind those ahead of it" */
    private static void eachPlaceOfEachTariff() {
        String one = "b-9+90@6163,";
        for (int tariff = 0; tariff < 4; tariff++) {
            for (int place = 0; place < 12; place++) {
                String ahead = tariffs(tariff) + one.substring(0, place);
                for (char c = 32; c <= 126; c++) {
                    boolean fine = goesOn(place, c) && ahead.length() < 47;
                    TariffDesk x = typed(ahead + c);
                    Due.is("fault() of \"" + ahead + c + "\"", x.fault(), ahead.length() + (fine ? 1 : 0));
                    x.letter('~');
                    Due.is("fault(), one letter on", x.fault(), ahead.length() + (fine ? 1 : 0));
                }
            }
        }
    }

    /** "one to four TARIFFS .. with "," between"; "STATE: it is none." */
    private static void oneToFourTariffs() {
        for (int letters = 0; letters <= 50; letters++) {
            String text = (FOUR + ",t+").substring(0, letters);
            TariffDesk x = typed(text);
            boolean whole = letters == 11 || letters == 23 || letters == 35 || letters == 47;
            Due.is("fault() of " + letters + " letters", x.fault(), Math.min(letters, 47));
            Due.is("desk() of " + letters + " letters", x.desk(), whole ? (letters + 1) / 12 : Due.STATE);
            Due.is("letters then", x.count(6), whole ? 0 : letters);
            Due.is("a DESK was read", x.count(7), whole ? 1 : 0);
            Due.is("TARIFFS", x.count(0), whole ? (letters + 1) / 12 : 0);
        }
        String[] none = {ONE + ONE, ONE + ";" + ONE, "," + ONE, ONE + ",," + ONE, " " + ONE, ONE + " ",
            ONE + ", " + ONE, "T+0+00@0000", "t+00+00@0000", "t+0+0@0000", "t0+00@0000", "t+0+00 0000"};
        for (String text : none) {
            Due.is("desk() of \"" + text + "\"", typed(text).desk(), Due.STATE);
        }
    }

    /** "two digits, FIRST (63 at most), two digits, LAST (FIRST to 63)" */
    private static void allFirstsAndLasts() {
        for (int first = 0; first < 100; first++) {
            for (int last = 0; last < 100; last++) {
                TariffDesk x = typed(String.format("f+0+05@%02d%02d", first, last));
                boolean fine = first <= 63 && last <= 63 && first <= last;
                int fault = first >= 70 ? 7 : first > 63 ? 8
                        : last / 10 < first / 10 || last >= 70 ? 9 : fine ? 11 : 10;
                Due.is("fault() of " + first + " to " + last, x.fault(), fault);
                Due.is("desk() of " + first + " to " + last, x.desk(), fine ? 1 : Due.STATE);
                Due.is("FIRST", x.tariff(0, 1), fine ? first : Due.UNKNOWN);
                Due.is("LAST", x.tariff(0, 2), fine ? last : Due.UNKNOWN);
                Due.is("GAPS", x.count(3), fine ? 63 - last + first : 0);
            }
        }
    }

    /** ""+" or "-" and a digit, the RATE; "+" or "-" and two digits, the BASE" */
    private static void allRatesAndBases() {
        for (int rate = -9; rate <= 9; rate++) {
            for (int base = -99; base <= 99; base++) {
                String text = String.format("t%c%d%c%02d@0001", rate < 0 ? '-' : '+', Math.abs(rate),
                        base < 0 ? '-' : '+', Math.abs(base));
                TariffDesk x = Due.desk(text);
                Due.is("BASE of " + text, x.price(0, 0), Due.MORE + base);
                Due.is("RATE of " + text, x.price(0, 1), Due.MORE + base + rate);
            }
        }
        TariffDesk x = Due.desk("t-0-00@0001");
        Due.is("less nothing is nothing", x.price(0, 0), Due.MORE);
        Due.is("less nothing is nothing", x.price(0, 1), Due.MORE);
    }

    /** "KINDS are told by the letter: 0 TARIFF "t", 1 FLAT "f", 2 STEEP "s", 3 BEGUN "b", 4 SALE "o"." */
    private static void kindsByTheLetter() {
        String letters = "tfsbo";
        for (int kind = 0; kind < 5; kind++) {
            TariffDesk x = Due.desk(letters.charAt(kind) + "+3-07@1020");
            Due.is("KIND of " + letters.charAt(kind), x.tariff(0, 0), kind);
            long[] at20 = {60 - 7, -7, 120 - 7, 30 - 7, 30 - 4};
            Due.is("PRICE of " + letters.charAt(kind), x.price(0, 20), Due.MORE + at20[kind]);
        }
    }

    /** "numbered from 0, as all that are OFFERED later"; "They are OFFERED one after the other." */
    private static void numberedAndOfferedInOrder() {
        TariffDesk x = Due.desk("t+1+00@0063,t-1+62@0063,f+0+31@0063,s-1+93@0063");
        TariffDesk y = Due.desk("t+1+00@0063");
        y.offer(0, -1, 62, 63);
        y.offer(1, 0, 31, 63);
        y.offer(2, -1, 93, 63);
        Due.is("a DESK of four is as four offers", x.digest(), y.digest());
        Due.is("all cost 31 for 31: the first one", x.cheapest(31), 0);
        x.offer(1, 0, 30, 3131);
        Due.is("the next one is number 4", x.cheapest(31), 4);
        for (int t = 4; t >= 0; t--) {
            Due.is("undo()", x.undo(), t);
        }
        Due.is("undo() of none", x.undo(), Due.STATE);
    }

    /** "another one is gone, with all that was"; "THE PAGE is empty then" */
    private static void anotherDeskIsGoneWithAllThatWas() {
        TariffDesk x = Due.desk(FOUR);
        for (int t = 4; t < 40; t++) {
            x.offer(1, 0, -t, 63);
        }
        for (int n = 0; n < 6; n++) {
            x.see(n, 0, 0);
        }
        x.image();
        Due.typed(x, "f+0+05@3232");
        Due.is("another DESK", x.desk(), 1);
        TariffDesk y = Due.desk(ONE);
        Due.typed(y, "f+0+05@3232");
        y.desk();
        Due.is("nothing is left of the one before", x.digest(), y.digest());
        Due.is("it can't be restored", x.restore(), Due.STATE);
        Due.is("undo()", x.undo(), 0);
        Due.is("no more can be UNDONE", x.undo(), Due.STATE);
        Due.is("all are GAPS", x.count(3), 64);
        Due.is("the first letter then", x.letter('t'), 1);
    }

    private static void aPageThatIsNoDeskChangesNothing() {
        Run run = Run.ofDesk(FOUR).then(Call.image(), Call.see(0, 1, 1), Call.offer(0, 0, -5, 163));
        String[] none = {"", "t", "t+0+00@000", ONE + ",", "x+0+00@0000", "t+0+00@6463", "t+0+00@6362", FOUR + ","};
        for (String text : none) {
            TariffDesk x = run.typed(text).object();
            Due.is("desk() of \"" + text + "\"", x.desk(), Due.STATE);
            Due.that("nothing is changed by desk() of \"" + text + "\"",
                    Run.usedUp(x).equals(Run.usedUp(run.typed(text).object())));
            x = run.typed(text).object();
            x.desk();
            Due.is("the PAGE stays", x.blank(), text.length());
            Due.is("the IMAGE stays", x.restore(), 4);
        }
    }
}
