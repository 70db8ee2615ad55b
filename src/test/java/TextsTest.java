/** Promises 20 to 23: the pad, its fault, and carrying it out. */
public final class TextsTest {
    private static final Due DUE = new Due("TextsTest");

    public static void main(String[] args) {
        putting();
        putErrors();
        fullPad();
        wiping();
        rightTexts();
        faults();
        tooShortTexts();
        orders();
        ordersUpToAnError();
        oneChange();
        badTextStays();
        fullText();
        ticksOfTexts();
        DUE.end();
    }

    private static void putting() {
        PlugPins x = new PlugPins();
        DUE.is("one character", x.put('!'), 1);
        DUE.is("another one", x.put('~'), 2);
        DUE.is("eight at once", x.put(Due.number("abcdefgh")), 10);
        DUE.is("eight of the highest code", x.put(Due.number("~~~~~~~~")), 18);
        DUE.is("three", x.put(Due.number("abc")), 21);
        DUE.is("count(18)", x.count(18), 21);
        DUE.is("no change", x.count(19), 0);
        PlugPins y = new PlugPins();
        y.put(Due.number("b1"));
        y.put(Due.number("2.34"));
        DUE.is("the last character is in the lowest bits", y.fault(), -6);
        y.carryOut();
        DUE.is("its word", y.of(0, 0), 12);
        DUE.is("its current", y.of(0, 1), 34);
    }

    private static void putErrors() {
        PlugPins x = new PlugPins();
        long[] bad = {0L, 32L, 127L, 128L, 255L, 1L, -1L, Long.MIN_VALUE, Long.MAX_VALUE, 0x6100L, 0x610061L, 0x0100000061L,
            0x6161616161616120L, 0x2061616161616161L, 0x6100000000000000L, 0x6100616161616161L, 0x8000000000000061L,
            0x7f61616161616161L, 0x6161616180616161L, 0x100L, 0x0061006161L, 0x616161617f61L};
        for (long characters : bad) {
            DUE.is("put(" + Long.toHexString(characters) + ")", x.put(characters), -2);
        }
        DUE.is("nothing was put", x.count(18), 0);
        DUE.is("the lowest code", x.put(33L), 1);
        DUE.is("the highest code", x.put(126L), 2);
    }

    private static void fullPad() {
        PlugPins x = new PlugPins();
        for (int i = 1; i <= 9; i++) {
            DUE.is("eight more", x.put(Due.number("12345678")), 8 * i);
        }
        DUE.is("seven more", x.put(Due.number("1234567")), 79);
        DUE.is("two would be too many", x.put(Due.number("12")), -4);
        DUE.is("bad, ahead of too many", x.put(0x2020L), -2);
        DUE.is("none, ahead of too many", x.put(0L), -2);
        DUE.is("its length", x.count(18), 79);
        DUE.is("the eightieth", x.put('1'), 80);
        DUE.is("the next one", x.put('1'), -4);
        DUE.is("eight more", x.put(Due.number("12345678")), -4);
        DUE.is("bad, ahead of too many", x.put(31L), -2);
        DUE.is("its length", x.count(18), 80);
        DUE.is("wiped", x.wipe(), 80);
        DUE.is("eight on the empty pad", x.put(Due.number("12345678")), 8);
    }

    private static void wiping() {
        PlugPins x = new PlugPins();
        DUE.is("an empty pad", x.wipe(), 0);
        Due.write(x, "t1;t2");
        x.set(1, 3);
        DUE.is("wipe()", x.wipe(), 5);
        DUE.is("its length", x.count(18), 0);
        DUE.is("again", x.wipe(), 0);
        DUE.is("no change", x.count(19), 1);
        DUE.is("nothing is left of it", x.fault(), 0);
    }

    private static int faultOf(String text) {
        PlugPins x = new PlugPins();
        Due.write(x, text);
        int fault = x.fault();
        DUE.is("the pad stays: " + text, x.count(18), text.length());
        DUE.is("carryOut() fails for the same texts: " + text, x.carryOut() == -3 ? 1 : 0, fault == -6 ? 0 : 1);
        return fault;
    }

    private static void rightTexts() {
        String[] right = {"b0.0", "b99.99", "b7.60", "b10.1", "i0@0+0", "i9@9+99", "i1@2+24", "o0-0", "o9-99", "o3-7",
            "a0", "a9", "w00", "w99", "w01", "t0", "t1", "t9", "t10", "t99", "t1;t2;t3", "w01;a2;o3-4;i5@6+7;b8.9;t10",
            "b0.1;b0.10;t0;a0"};
        for (String text : right) {
            DUE.is("fault of " + text, faultOf(text), -6);
        }
    }

    private static void faults() {
        String[] texts = {"x", "1", ";", "B1.1", "-1", "b.1", "b01.1", "b100.1", "b1,1", "b1.", "b1.01", "b1.100", "b1.1.", "bb",
            "i", "i00@0+1", "i@0+1", "i0+1", "i0@", "i0@a", "i0@10+1", "i0@1-1", "i0@1+a", "i0@1+01", "i0@1+100",
            "o-1", "o0+1", "o00-1", "o0-x", "o0-00", "o0-250", "ax", "a00", "a0a", "wx0", "w0x", "w000", "w0;1",
            "tx", "t00", "t01", "t100", "t1t2", "t1;;t2", "t1;x", "t1;t2;t007", "t1,t2", "a1;b", "t5~", "t5!", "t-1", "~", "t99;t990"};
        int[] due = {0, 0, 0, 0, 0, 1, 2, 3, 2, 3, 4, 5, 4, 1,
            1, 2, 1, 2, 3, 3, 4, 4, 5, 6, 7,
            1, 2, 2, 3, 4, 5, 1, 2, 2, 1, 2, 3, 2,
            1, 2, 2, 3, 2, 3, 3, 8, 2, 4, 2, 2, 1, 0, 7};
        DUE.is("as many texts as faults", texts.length, due.length);
        for (int i = 0; i < texts.length; i++) {
            DUE.is("fault of " + texts[i], faultOf(texts[i]), due[i]);
        }
    }

    private static void tooShortTexts() {
        PlugPins x = new PlugPins();
        DUE.is("the empty text", x.fault(), 0);
        DUE.is("carryOut() of it", x.carryOut(), -3);
        DUE.is("records nothing", x.count(19), 0);
        String whole = "b12.34;i0@1+23;o4-56;a7;w89;t10;t0";
        String complete = ";4;5;6;13;14;19;20;23;27;30;31;34;";
        for (int length = 1; length <= whole.length(); length++) {
            boolean isWhole = complete.contains(";" + length + ";");
            String start = whole.substring(0, length);
            if (!isWhole) {
                DUE.is("fault of " + start, faultOf(start), startFault(start));
            }
        }
    }

    /** Every start of a right text can go on: its fault, if it has one, is its length. */
    private static int startFault(String start) {
        char last = start.charAt(start.length() - 1);
        boolean endsOrder = Character.isDigit(last) && !start.matches(".*(b\\d+|i\\d|i\\d@\\d|o\\d|w\\d)$");
        return endsOrder ? -6 : start.length();
    }

    private static void orders() {
        PlugPins x = new PlugPins();
        DUE.is("two boards, two plugs", Due.run(x, "b7.20;b9.30;i0@3+24;i1@4+12"), 4);
        DUE.is("its word", x.of(0, 0), 7);
        DUE.is("its current", x.of(0, 1), 20);
        DUE.is("its word", x.of(1, 0), 9);
        DUE.is("its slot", x.of(0, 2), 3);
        DUE.is("its speed", x.of(1, 4), 112);
        DUE.is("the time", x.count(0), 0);
        DUE.is("ticks and a word", Due.run(x, "t10;w01;t1"), 3);
        DUE.is("the time", x.count(0), 11);
        DUE.is("the word", x.count(7), 0);
        DUE.is("from", x.word(0, 0), 0);
        DUE.is("to", x.word(0, 1), 1);
        DUE.is("ask and pull", Due.run(x, "a1;o1-5"), 2);
        DUE.is("it has asked", x.of(1, 7), 1);
        DUE.is("its speed", x.of(1, 4), 95);
        DUE.is("the pad is empty", x.count(18), 0);
        DUE.is("a slot and a board with other numbers", Due.run(x, "b0.1;i2@0+3"), 2);
        DUE.is("its slot", x.of(2, 2), 0);
    }

    private static void ordersUpToAnError() {
        PlugPins x = new PlugPins();
        DUE.is("no board 5", Due.run(x, "b1.1;a5;b2.2"), 1);
        DUE.is("boards", x.count(1), 1);
        DUE.is("the pad is empty", x.count(18), 0);
        DUE.is("a current of 0", Due.run(x, "b1.0;b1.1"), 0);
        DUE.is("a speed of 25", Due.run(x, "i0@0+25;t1"), 0);
        DUE.is("a slot 5", Due.run(x, "i0@5+1;t1"), 0);
        DUE.is("no ticks", Due.run(x, "t1;t0;t1"), 1);
        DUE.is("a word to itself", Due.run(x, "t1;w00;t1"), 1);
        DUE.is("a word of one that is not known", Due.run(x, "b3.3;w01;t1"), 1);
        DUE.is("pulled on the shelf", Due.run(x, "o0-1"), 0);
        DUE.is("asks and is not known", Due.run(x, "a0"), 0);
        DUE.is("the time", x.count(0), 2);
        DUE.is("boards", x.count(1), 3);
        Due.run(x, "b0.1;b0.1;b0.1;b0.1;b0.1;b0.1");
        DUE.is("the ninth board", Due.run(x, "t3;b0.1"), 1);
        DUE.is("the time", x.count(0), 5);
    }

    private static void oneChange() {
        PlugPins x = new PlugPins();
        x.set(1, 5);
        DUE.is("three boards", Due.run(x, "b1.1;b2.2;b3.3;t7"), 4);
        DUE.is("one change", x.count(19), 2);
        DUE.is("none is carried out", Due.run(x, "a0;b4.4"), 0);
        DUE.is("a change all the same", x.count(19), 3);
        DUE.is("undo()", x.undo(), 2);
        DUE.is("boards", x.count(1), 7);
        DUE.is("undo()", x.undo(), 1);
        DUE.is("all of its orders", x.count(1), 0);
        DUE.is("the time", x.count(0), 0);
        DUE.is("not what was before", x.count(14), 5);
        DUE.is("the pad stays empty", x.count(18), 0);
    }

    private static void badTextStays() {
        PlugPins x = new PlugPins();
        Due.write(x, "b1.1;b2");
        DUE.is("a fault", x.carryOut(), -3);
        DUE.is("nothing is carried out", x.count(1), 0);
        DUE.is("the pad stays", x.count(18), 7);
        DUE.is("no change", x.count(19), 0);
        Due.write(x, ".2");
        DUE.is("it can be ended", x.carryOut(), 2);
        DUE.is("boards", x.count(1), 3);
        x.put('t');
        DUE.is("what was wiped does not go on", x.fault(), 1);
    }

    private static void fullText() {
        PlugPins x = Due.withKnown(2);
        StringBuilder text = new StringBuilder("t1");
        while (text.length() < 80) {
            text.append(";t1");
        }
        DUE.is("80 characters", text.length(), 80);
        DUE.is("27 orders", Due.run(x, text.toString()), 27);
        DUE.is("the time", x.count(0), 35);
        Due.write(x, text.substring(0, 78) + "11");
        DUE.is("a fault at the end", x.fault(), 78);
        x.wipe();
        Due.write(x, text.substring(0, 79) + ";");
        DUE.is("a fault at the last character", x.fault(), 79);
        x.wipe();
        Due.write(x, text.substring(0, 77) + "t99");
        DUE.is("a fault in the middle", x.fault(), 77);
        x.wipe();
        Due.write(x, text.substring(0, 77) + ";b1");
        DUE.is("a full pad that ends too early", x.fault(), 80);
    }

    private static void ticksOfTexts() {
        PlugPins x = new PlugPins();
        for (int i = 0; i < 5; i++) {
            Due.run(x, "t99;t99;t99;t99;t99;t99;t99;t99;t99;t99;t99;t99;t99;t99;t99;t99;t99;t99;t99;t99");
        }
        DUE.is("the time", x.count(0), 9900);
        DUE.is("up to the bound", Due.run(x, "t98;t2;t1"), 1);
        DUE.is("the time", x.count(0), 9998);
        DUE.is("the last tick", Due.run(x, "t1;t1"), 1);
        DUE.is("the time", x.count(0), 9999);
    }
}
