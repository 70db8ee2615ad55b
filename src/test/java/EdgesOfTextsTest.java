/** The sentences of the promises 20 to 23 and of "Texts" that name an edge: characters, the pad's room, faults, orders. */
public final class EdgesOfTextsTest {
    private static final Due DUE = new Due("EdgesOfTextsTest");
    private static final Edges EDGES = new Edges(DUE);
    private static final String DIGITS = "0123456789";
    private static final String ORDERS = "biowat";

    public static void main(String[] args) {
        oneToEightCharacters();
        theLastCharacterIsTheLowest();
        codesFrom33To126();
        bitsAboveTheLastCharacter();
        noCharacter();
        padOf80Characters();
        putErrorsInTheirOrder();
        wipeReturnsTheLength();
        faultOfEveryNextCharacter();
        numbersFrom0To99();
        numbersAbove99();
        leadingZeros();
        textThatEndsTooEarly();
        emptyText();
        fullPads();
        faultChangesNothing();
        digitsOfBoardsAndSlots();
        numbersOfOrders();
        carriedOutUpToTheFirstError();
        carryOutReturnsHowMany();
        carryOutEmptiesThePad();
        carryOutOfAFault();
        carryOutIsOneChange();
        ordersAreAsTheCalls();
        DUE.end();
    }

    // ---- promise 20: put

    /** "characters: 1 to 8 characters"; "Returns the length of the pad then". */
    private static void oneToEightCharacters() {
        for (int more = 1; more <= 8; more++) {
            PlugPins x = new PlugPins();
            DUE.is("so many: " + more, x.put(Due.number("zzzzzzzz".substring(0, more))), more);
            DUE.is("and again", x.put(Due.number("!!!!!!!!".substring(0, more))), 2 * more);
        }
    }

    private static void theLastCharacterIsTheLowest() {
        String text = "b12.34";
        for (int length = 1; length < 6; length++) {
            PlugPins x = new PlugPins();
            x.put(Due.number(text.substring(0, length)));
            x.put(Due.number(text.substring(length)));
            DUE.is("carried out", x.carryOut(), 1);
            DUE.is("its word", x.of(0, 0), 12);
            DUE.is("its current", x.of(0, 1), 34);
        }
    }

    /** "a code is not 33 to 126", at each of the eight places. */
    private static void codesFrom33To126() {
        for (int place = 0; place < 8; place++) {
            for (int code = 0; code < 256; code++) {
                long others = 0x6161616161616161L & ~(255L << 8 * place);
                long number = others | (long) code << 8 * place;
                boolean isGood = code >= 33 && code <= 126;
                int due = isGood ? 8 : place == 7 && code == 0 ? 7 : -2;
                DUE.is("put(" + Long.toHexString(number) + ")", new PlugPins().put(number), due);
            }
        }
        for (int code = 0; code < 256; code++) {
            DUE.is("put(" + code + ")", new PlugPins().put(code), code >= 33 && code <= 126 ? 1 : -2);
        }
        for (long code : new long[] {0, 32, 127, 128, 255, -1, Long.MIN_VALUE, Long.MAX_VALUE, Long.MIN_VALUE + 'a'}) {
            EDGES.refused("put(" + Long.toHexString(code) + ")", Edges::busy, x -> x.put(code), -2);
        }
    }

    /** "8 bits that are 0 mean that there are no more characters, and everything above them has to be 0, too". */
    private static void bitsAboveTheLastCharacter() {
        for (int length = 0; length < 8; length++) {
            long number = Due.number("aaaaaaaa".substring(0, length));
            for (int bit = 8 * length; bit < 64; bit++) {
                long more = number | 1L << bit;
                boolean isOneMore = bit == 8 * length + 6;
                DUE.is("put(" + Long.toHexString(more) + ")", new PlugPins().put(more), isOneMore ? length + 1 : -2);
            }
        }
        long[] gaps = {0x6100L, 0x610061L, 0x6100616161616161L, 0x6161616161616100L, 0x6161616100616161L, 0x0061000061000061L};
        for (long gap : gaps) {
            EDGES.refused("put(" + Long.toHexString(gap) + ")", Edges::busy, x -> x.put(gap), -2);
        }
    }

    /** "BAD_VALUE if there is no character". */
    private static void noCharacter() {
        DUE.is("put(0)", new PlugPins().put(0L), -2);
        EDGES.refused("put(0) as all is busy", Edges::busy, x -> x.put(0L), -2);
        EDGES.refused("put(0) on a full pad", () -> padOf(80), x -> x.put(0L), -2);
    }

    private static PlugPins padOf(int length) {
        PlugPins x = Edges.shortHistory();
        StringBuilder text = new StringBuilder();
        while (text.length() < length) {
            text.append(text.length() % 3 == 0 ? 'a' : text.length() % 3 == 1 ? '0' : ';');
        }
        Due.write(x, text.toString());
        return x;
    }

    /** "TOO_MANY if the pad would be longer than 80". */
    private static void padOf80Characters() {
        for (int more = 1; more <= 8; more++) {
            long number = Due.number("00000000".substring(0, more));
            for (int length = 70; length <= 80; length++) {
                int due = length + more <= 80 ? length + more : -4;
                DUE.is(more + " more than " + length, padOf(length).put(number), due);
            }
            int justTooLong = 81 - more;
            EDGES.refused(more + " more than " + justTooLong, () -> padOf(justTooLong), x -> x.put(number), -4);
        }
    }

    /** "BAD_VALUE [..]; TOO_MANY if the pad would be longer than 80". */
    private static void putErrorsInTheirOrder() {
        long[] bad = {0L, 32L, 127L, 0x6100L, 0x6161616161616120L, 0x2061616161616161L, -1L, Long.MIN_VALUE, Long.MAX_VALUE};
        for (long number : bad) {
            EDGES.refused("bad, on a full pad", () -> padOf(80), x -> x.put(number), -2);
            DUE.is("bad, with room for one more", padOf(79).put(number), -2);
        }
    }

    // ---- promise 21: wipe

    private static void wipeReturnsTheLength() {
        EDGES.refused("an empty pad", Edges::shortHistory, PlugPins::wipe, 0);
        for (int length = 1; length <= 80; length++) {
            PlugPins x = padOf(length);
            String before = Due.seen(x);
            DUE.is("a pad of " + length, x.wipe(), length);
            DUE.is("it is empty", x.count(18), 0);
            DUE.is("and wiped again", x.wipe(), 0);
            DUE.is("its fault", x.fault(), 0);
            DUE.is("no change", x.count(19), 2);
            DUE.same("nothing else is different", Due.seen(x), before);
        }
    }

    // ---- promise 22: fault

    /** What can stand next behind a start: its signs; E if the start can be the end, D if a digit makes it so. */
    private static final String[][] STARTS = {
        {"", ORDERS, ""}, {"t1;", ORDERS, ""}, {"b10.2;", ORDERS, ""}, {"i1@2+3;", ORDERS, ""}, {"o0-0;", ORDERS, ""},
        {"a7;", ORDERS, ""}, {"w12;", ORDERS, ""},
        {"b", DIGITS, ""}, {"b0", ".", ""}, {"b1", DIGITS + ".", ""}, {"b9", DIGITS + ".", ""}, {"b10", ".", ""}, {"b99", ".", ""},
        {"b0.", DIGITS, "D"}, {"b42.", DIGITS, "D"}, {"b0.0", ";", "E"}, {"b42.1", DIGITS + ";", "ED"}, {"b4.9", DIGITS + ";", "ED"},
        {"b0.10", ";", "E"}, {"b42.99", ";", "E"},
        {"i", DIGITS, ""}, {"i0", "@", ""}, {"i9", "@", ""}, {"i5@", DIGITS, ""}, {"i5@0", "+", ""}, {"i5@9", "+", ""},
        {"i0@1+", DIGITS, "D"}, {"i0@1+0", ";", "E"}, {"i0@1+1", DIGITS + ";", "ED"}, {"i0@1+9", DIGITS + ";", "ED"}, {"i0@1+24", ";", "E"},
        {"o", DIGITS, ""}, {"o0", "-", ""}, {"o9", "-", ""}, {"o3-", DIGITS, "D"}, {"o3-0", ";", "E"}, {"o3-2", DIGITS + ";", "ED"},
        {"o3-24", ";", "E"},
        {"a", DIGITS, "D"}, {"a0", ";", "E"}, {"a9", ";", "E"},
        {"w", DIGITS, ""}, {"w0", DIGITS, "D"}, {"w9", DIGITS, "D"}, {"w00", ";", "E"}, {"w99", ";", "E"},
        {"t", DIGITS, "D"}, {"t0", ";", "E"}, {"t1", DIGITS + ";", "ED"}, {"t9", DIGITS + ";", "ED"}, {"t10", ";", "E"}, {"t99", ";", "E"}};

    /** "the index of the first character that cannot stand at its place", for each start and each sign behind it. */
    private static void faultOfEveryNextCharacter() {
        String[] leads = {"", "t9;", "w01;a2;b3.4;"};
        for (String lead : leads) {
            for (String[] start : STARTS) {
                String text = lead + start[0];
                DUE.is("fault of " + text, faultOf(text), start[2].contains("E") ? -6 : text.length());
                for (char sign = 33; sign <= 126; sign++) {
                    boolean canStand = start[1].indexOf(sign) >= 0;
                    boolean isWhole = canStand && DIGITS.indexOf(sign) >= 0 && start[2].contains("D");
                    int due = !canStand ? text.length() : isWhole ? -6 : text.length() + 1;
                    DUE.is("fault of " + text + sign, faultOf(text + sign), due);
                    if (!canStand) {
                        DUE.is("fault with more behind it", faultOf(text + sign + ";~"), due);
                    }
                }
            }
        }
    }

    private static int faultOf(String text) {
        PlugPins x = new PlugPins();
        Due.write(x, text);
        return x.fault();
    }

    /** "a number 0 to 99". */
    private static void numbersFrom0To99() {
        for (int number = 0; number <= 99; number++) {
            String[] texts = {"b" + number + ".1", "b1." + number, "i0@1+" + number, "o1-" + number, "t" + number};
            for (String text : texts) {
                DUE.is("fault of " + text, faultOf(text), -6);
                DUE.is("fault of it with another order", faultOf(text + ";a1"), -6);
            }
        }
    }

    /** "(also of a digit by which a number would be above 99)". */
    private static void numbersAbove99() {
        for (int number = 100; number <= 999; number++) {
            DUE.is("word " + number, faultOf("b" + number + ".1"), 3);
            DUE.is("current " + number, faultOf("b1." + number), 5);
            DUE.is("inward " + number, faultOf("i0@1+" + number), 7);
            DUE.is("outward " + number, faultOf("o1-" + number), 5);
            DUE.is("ticks " + number, faultOf("t" + number), 3);
        }
    }

    /** "without leading zeros". */
    private static void leadingZeros() {
        for (int digit = 0; digit <= 9; digit++) {
            DUE.is("word 0" + digit, faultOf("b0" + digit + ".1"), 2);
            DUE.is("current 0" + digit, faultOf("b1.0" + digit), 4);
            DUE.is("inward 0" + digit, faultOf("i0@1+0" + digit), 6);
            DUE.is("outward 0" + digit, faultOf("o1-0" + digit), 4);
            DUE.is("ticks 0" + digit, faultOf("t0" + digit), 2);
        }
    }

    /** "if there is none and the text ends too early [..], it is the length of the text". */
    private static void textThatEndsTooEarly() {
        String[] whole = {"b12.34", "i1@2+3", "o4-5", "a6", "w78", "t9"};
        int[] shortest = {5, 6, 4, 2, 3, 2};
        for (int i = 0; i < whole.length; i++) {
            for (int length = 0; length < shortest[i]; length++) {
                String start = whole[i].substring(0, length);
                DUE.is("fault of " + start, faultOf(start), length);
                DUE.is("fault behind another order", faultOf("t1;" + start), 3 + length);
                EDGES.refused("carryOut() of " + start, () -> written(start), PlugPins::carryOut, -3);
            }
            DUE.is("long enough", faultOf(whole[i].substring(0, shortest[i])), -6);
        }
    }

    private static PlugPins written(String text) {
        PlugPins x = Edges.shortHistory();
        Due.write(x, text);
        return x;
    }

    /** "(also if it is empty)". */
    private static void emptyText() {
        DUE.is("a new pad", new PlugPins().fault(), 0);
        DUE.is("a wiped one", faultAfterWipe(), 0);
        EDGES.refused("carryOut() of it", Edges::shortHistory, PlugPins::carryOut, -3);
    }

    private static int faultAfterWipe() {
        PlugPins x = padOf(80);
        x.wipe();
        return x.fault();
    }

    private static void fullPads() {
        String orders = "a0;a0;a0;a0;a0;a0;a0;a0;a0;a0;a0;a0;a0;a0;a0;a0;a0;a0;a0;a0;a0;a0;a0;a0;a0;a0;";
        DUE.is("26 orders and what parts them", orders.length(), 78);
        DUE.is("80 characters without a fault", faultOf(orders + "a0"), -6);
        DUE.is("a fault at the last one", faultOf(orders + "aa"), 79);
        DUE.is("a fault at the one before", faultOf(orders + "00"), 78);
        DUE.is("80 characters that end too early", faultOf(orders.substring(3) + "b1.1;"), 80);
        DUE.is("79 characters that end too early", faultOf(orders + "a"), 79);
        DUE.is("a fault at the first one", faultOf("0" + orders), 0);
        DUE.is("80 signs of one sort", faultOf("tttttttttttttttttttttttttttttttttttttttttttttttttttttttttttttttttttttttttttttttt"), 1);
    }

    private static void faultChangesNothing() {
        EDGES.refused("fault()", Edges::busy, PlugPins::fault, 9);
        EDGES.refused("fault() of a full pad", () -> padOf(80), PlugPins::fault, -6);
        EDGES.refused("fault() of an empty one", Edges::shortHistory, PlugPins::fault, 0);
    }

    // ---- promise 23: carryOut

    /** A digit is 0 to 9, also where there is no such board or slot: then its order returns an error. */
    private static void digitsOfBoardsAndSlots() {
        for (int digit = 0; digit <= 9; digit++) {
            int isKnown = digit < 5 ? 1 : 0;
            DUE.is("a" + digit, Due.run(Due.withKnown(5), "a" + digit), isKnown);
            DUE.is("o" + digit, Due.run(Due.withKnown(5), "o" + digit + "-1"), isKnown);
            DUE.is("w from " + digit, Due.run(Due.withKnown(5), "w" + digit + (digit == 0 ? 1 : 0)), isKnown);
            DUE.is("w to " + digit, Due.run(Due.withKnown(5), "w" + (digit == 0 ? 1 : 0) + digit), isKnown);
            DUE.is("i of " + digit, Due.run(Edges.shelf(8), "i" + digit + "@0+1"), digit < 8 ? 1 : 0);
            DUE.is("i into " + digit, Due.run(Edges.shelf(8), "i0@" + digit + "+1"), isKnown);
        }
    }

    private static void numbersOfOrders() {
        for (int number = 0; number <= 99; number++) {
            PlugPins x = new PlugPins();
            DUE.is("b" + number, Due.run(x, "b" + number + ".1"), 1);
            DUE.is("its word", x.of(0, 0), number);
            DUE.is("b1." + number, Due.run(x, "b1." + number), number >= 1 && number <= 60 ? 1 : 0);
            DUE.is("i0@0+" + number, Due.run(x, "i0@0+" + number), number >= 1 && number <= 24 ? 1 : 0);
            DUE.is("o0-" + number, Due.run(Edges.atDepth(9), "o0-" + number), number >= 1 && number <= 24 ? 1 : 0);
            PlugPins y = new PlugPins();
            DUE.is("t" + number, Due.run(y, "t" + number), number >= 1 ? 1 : 0);
            DUE.is("the time", y.count(0), number);
        }
    }

    /** "up to the first one that returns an error": each error, by each order that can return it. */
    private static void carriedOutUpToTheFirstError() {
        String[] errors = {"b1.0", "b1.61", "i5@4+1", "i4@5+1", "i4@4+0", "i4@4+25", "i4@3+1", "i0@4+1", "i0@0+1", "o5-1", "o0-0", "o0-25",
            "o4-1", "a5", "a3", "a2", "w50", "w05", "w00", "w30", "w03", "w02", "t0"};
        for (String error : errors) {
            PlugPins x = Edges.busy();
            PlugPins y = Edges.busy();
            DUE.is(error + " behind a tick", Due.run(x, "t1;" + error + ";t1;b1.1"), 1);
            DUE.is("a tick", Due.run(y, "t1"), 1);
            DUE.same("as by the tick alone", Due.seenWhole(x), Due.seenWhole(y));
            PlugPins z = Edges.busy();
            String before = Due.seen(z);
            DUE.is(error + " first", Due.run(z, error + ";t1"), 0);
            DUE.same("nothing is carried out", Due.seen(z), before);
        }
        DUE.is("the ninth board", Due.run(Edges.shelf(7), "b1.1;b1.1;t1"), 1);
        DUE.is("the eleventh word", Due.run(Due.withKnown(2), "w01;w01;w01;w01;w01;w01;w01;w01;w01;w01;w01;t1"), 10);
        PlugPins late = new PlugPins();
        for (int i = 0; i < 100; i++) {
            late.pass(99);
        }
        DUE.is("the time 10000", Due.run(late, "t98;t1;t1;b1.1"), 2);
        DUE.is("the time", late.count(0), 9999);
        DUE.is("no board came", late.of(0, 0), -1);
    }

    /** "Returns how many orders were carried out": from none to the most that the pad has room for. */
    private static void carryOutReturnsHowMany() {
        DUE.is("none", Due.run(new PlugPins(), "a0"), 0);
        StringBuilder text = new StringBuilder("t1");
        for (int orders = 1; orders <= 27; orders++) {
            PlugPins x = new PlugPins();
            DUE.is(orders + " orders", Due.run(x, text.toString()), orders);
            DUE.is("the time", x.count(0), orders);
            text.append(";t1");
        }
    }

    /** "and empties the pad", also if none is carried out. */
    private static void carryOutEmptiesThePad() {
        for (String text : new String[] {"t1", "t0", "t1;t0;t1", "a9", "b1.1;b2.2"}) {
            PlugPins x = Edges.shortHistory();
            Due.run(x, text);
            DUE.is("empty behind " + text, x.count(18), 0);
            DUE.is("carried out once", x.carryOut(), -3);
        }
        PlugPins full = padOf(80);
        full.carryOut();
        DUE.is("room for eight", full.put(Due.number("12345678")), 8);
    }

    /** "BAD_TEXT if the pad has a fault (then it stays)". */
    private static void carryOutOfAFault() {
        EDGES.refused("a text that ends too early", Edges::busy, PlugPins::carryOut, -3);
        for (String text : new String[] {"x", "t1;", "t1;;t1", "t1;b1", "t100", "t01", "b1.1;t1x", ";t1", "T1", "t1;t1;t"}) {
            EDGES.refused("carryOut() of " + text, () -> written(text), PlugPins::carryOut, -3);
        }
    }

    /** "This is a change (one, with all of them; also if none is carried out)". */
    private static void carryOutIsOneChange() {
        String[] texts = {"a9", "t1", "b1.1;b2.2;t9;t9;t9", "w01;w10;w01;w10;w01;w10;w01", "o0-9;t9;a1;i0@0+1"};
        for (String text : texts) {
            PlugPins x = Edges.shortHistory();
            String before = Due.seen(x);
            Due.run(x, text);
            DUE.is("changes behind " + text, x.count(19), 3);
            DUE.is("undo()", x.undo(), 2);
            DUE.same("all of it is undone: " + text, Due.seen(x), before);
            DUE.is("the pad stays empty", x.count(18), 0);
        }
    }

    private static void ordersAreAsTheCalls() {
        PlugPins x = new PlugPins();
        PlugPins y = new PlugPins();
        Due.run(x, "b99.60;b0.1;i0@4+24;i1@0+7;t9;a0;w01;o0-3;t2");
        y.board(99, 60);
        y.board(0, 1);
        y.plug(0, 4, 24);
        y.plug(1, 0, 7);
        y.pass(9);
        y.ask(0);
        y.send(0, 1);
        y.pull(0, 3);
        y.pass(2);
        DUE.is("up to the word, as the board has asked", x.count(0), 9);
        Due.run(x, "o0-3;t2");
        DUE.same("as by the calls", Due.seen(x), Due.seen(y));
    }
}
