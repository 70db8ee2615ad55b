/** The sentences of "Terms" on boards, words and the six steps of a tick that name an edge, each one with its sweep. */
public final class EdgesOfTicksTest {
    private static final Due DUE = new Due("EdgesOfTicksTest");

    public static void main(String[] args) {
        deeperButTo24AtMost();
        lessDeepButTo0AtLeast();
        at24ItStands();
        at0ItLeavesTheSlot();
        middlePinsTouchFrom14On();
        middlePinsPartBelow14();
        middlePinsInOneTick();
        onePlugOfManyBoards();
        longPinsTouchFrom8On();
        softIsAddedUpTo100();
        notMoreThanSupply();
        supplyOf10AndOf300();
        supplyBelowWhatIsDrawn();
        drawIsRoundedDown();
        drawOfAllBoards();
        noPowerOnTheShelf();
        shortPinsTouchFrom20On();
        greetedWithAPowerOf100();
        greetTicks();
        greetingBeginsAnewBelow20();
        knownBoardsStayKnownFrom20On();
        becomesNotKnownBelow20();
        lengthTicks();
        oneWordOnTheBusAtMost();
        wordsInTheirOrder();
        hurtForTheThirdTime();
        hurtWordHasTheLengthOfThen();
        heldInwardFrom8To13();
        heldOutwardFrom14On();
        notHeldWithHold0();
        wordsOfABoardThatComesToBeNotKnown();
        pulledTooSoonUnlessItAsked();
        DUE.end();
    }

    private static PlugPins put(int current, int speed) {
        PlugPins x = new PlugPins();
        x.board(1, current);
        x.plug(0, 0, speed);
        return x;
    }

    // ---- step 1: boards that move

    private static void deeperButTo24AtMost() {
        for (int speed = 1; speed <= 24; speed++) {
            PlugPins x = put(1, speed);
            for (int tick = 1; tick * speed < 24 + 2 * speed; tick++) {
                x.pass(1);
                DUE.is("depth at the speed " + speed + " after " + tick, x.of(0, 3), Math.min(24, tick * speed));
            }
        }
    }

    private static void lessDeepButTo0AtLeast() {
        for (int speed = 1; speed <= 24; speed++) {
            PlugPins x = Edges.atDepth(24);
            x.pull(0, speed);
            for (int tick = 1; tick * speed < 24 + 2 * speed; tick++) {
                x.pass(1);
                DUE.is("depth at the speed -" + speed + " after " + tick, x.of(0, 3), Math.max(0, 24 - tick * speed));
                DUE.is("its slot", x.of(0, 2), tick * speed < 24 ? 0 : -6);
                DUE.is("its speed and 100", x.of(0, 4), tick * speed < 24 ? 100 - speed : 100);
            }
        }
    }

    private static void at24ItStands() {
        for (int depth = 1; depth < 24; depth++) {
            PlugPins x = Edges.atDepth(depth);
            DUE.is("it moves at " + depth, x.of(0, 4), 100 + depth);
            x.plug(0, 0, 24 - depth);
            x.pass(1);
            DUE.is("just deep enough from " + depth, x.of(0, 3), 24);
            DUE.is("it stands", x.of(0, 4), 100);
            x.undo();
            x.plug(0, 0, Math.max(1, 23 - depth));
            x.pass(1);
            DUE.is("one less from " + depth, x.of(0, 3), depth == 23 ? 24 : 23);
            DUE.is("it moves yet", x.of(0, 4), depth == 23 ? 100 : 123 - depth);
        }
    }

    private static void at0ItLeavesTheSlot() {
        for (int depth = 1; depth <= 24; depth++) {
            PlugPins x = Edges.atDepth(depth);
            x.pull(0, depth);
            x.pass(1);
            DUE.is("just out from " + depth, x.slot(0), -6);
            DUE.is("its speed", x.of(0, 4), 100);
            DUE.is("another one can come", x.plug(1, 0, 1), 0);
            PlugPins y = Edges.atDepth(depth);
            y.pull(0, Math.max(1, depth - 1));
            y.pass(1);
            DUE.is("one less from " + depth, y.slot(0), depth == 1 ? -6 : 0);
            DUE.is("its depth", y.of(0, 3), depth == 1 ? 0 : 1);
        }
        PlugPins z = put(1, 1);
        z.pull(0, 1);
        z.pass(1);
        DUE.is("from the depth 0", z.slot(0), -6);
    }

    /** "If its middle pins touch or part by that, there is a plug in this tick." */
    private static void middlePinsTouchFrom14On() {
        PlugPins x = put(1, 1);
        for (int depth = 1; depth <= 24; depth++) {
            x.pass(1);
            DUE.is("plugs at the depth " + depth, x.count(10), depth < 14 ? 0 : 1);
        }
    }

    private static void middlePinsPartBelow14() {
        PlugPins x = Edges.atDepth(24);
        x.pull(0, 1);
        for (int depth = 23; depth >= 0; depth--) {
            x.pass(1);
            DUE.is("plugs at the depth " + depth + " on the way out", x.count(10), depth >= 14 ? 1 : 2);
        }
    }

    private static void middlePinsInOneTick() {
        for (int from = 1; from < 24; from++) {
            for (int to = from + 1; to <= 24; to++) {
                PlugPins x = Edges.atDepth(from);
                int before = x.count(10);
                x.plug(0, 0, to - from);
                x.pass(1);
                DUE.is("plugs from " + from + " to " + to, x.count(10) - before, from < 14 && to >= 14 ? 1 : 0);
                x.pull(0, to - from);
                x.pass(1);
                DUE.is("plugs from " + to + " to " + from, x.count(10) - before, from < 14 && to >= 14 ? 2 : 0);
            }
        }
        PlugPins x = put(1, 24);
        x.pass(1);
        x.pull(0, 24);
        x.pass(1);
        DUE.is("from 0 to 24 and back to the shelf", x.count(10), 2);
    }

    /** A tick with two plugs or more is one with a plug. */
    private static void onePlugOfManyBoards() {
        PlugPins x = Edges.shelf(5);
        for (int board = 0; board < 5; board++) {
            x.plug(board, board, 24);
        }
        x.pass(1);
        DUE.is("five at once", x.count(10), 1);
        x.pull(0, 11);
        x.pull(4, 24);
        x.pass(1);
        DUE.is("two that part at once", x.count(10), 2);
        x.plug(0, 0, 1);
        x.pull(1, 24);
        x.pass(1);
        DUE.is("one that touches and one that parts", x.count(10), 3);
        x.pass(3);
        DUE.is("none", x.count(10), 3);
    }

    // ---- step 2: power

    private static void longPinsTouchFrom8On() {
        for (int depth = 1; depth <= 24; depth++) {
            PlugPins x = Edges.atDepth(depth);
            DUE.is("power at the depth " + depth, x.of(0, 5), depth < 8 ? 0 : 20);
            PlugPins y = Edges.atDepth(24);
            y.pull(0, 24 - depth + 1);
            y.pass(1);
            DUE.is("power at the depth " + (depth - 1) + " on the way out", y.of(0, 5), depth - 1 < 8 ? 0 : 40);
        }
    }

    /** "it has SOFT more, but 100 at most". */
    private static void softIsAddedUpTo100() {
        for (int soft = 1; soft <= 50; soft++) {
            PlugPins x = put(60, 24);
            x.set(1, soft);
            for (int tick = 1; tick <= 100 / soft + 2; tick++) {
                x.pass(1);
                DUE.is("power with SOFT " + soft + " after " + tick, x.of(0, 5), Math.min(100, tick * soft));
            }
        }
    }

    /** "unless all boards together would draw more than SUPPLY then". */
    private static void notMoreThanSupply() {
        for (int supply = 10; supply <= 62; supply++) {
            PlugPins x = put(60, 24);
            x.set(1, 50);
            x.set(4, supply);
            x.pass(1);
            DUE.is("30 of a supply of " + supply, x.of(0, 5), supply < 30 ? 0 : 50);
            x.pass(1);
            DUE.is("60 of a supply of " + supply, x.of(0, 5), supply < 30 ? 0 : supply < 60 ? 50 : 100);
        }
    }

    private static void supplyOf10AndOf300() {
        PlugPins x = put(10, 24);
        x.set(4, 10);
        x.pass(5);
        DUE.is("a supply of 10 for a current of 10", x.of(0, 5), 100);
        PlugPins y = put(11, 24);
        y.set(4, 10);
        y.pass(9);
        DUE.is("a supply of 10 for a current of 11", y.of(0, 5), 80);
        PlugPins z = fiveOf(60, 300);
        z.pass(5);
        DUE.is("a supply of 300 for five of 60", z.of(4, 5), 100);
        DUE.is("all of it is drawn", z.count(9), 300);
        PlugPins w = fiveOf(60, 299);
        w.pass(9);
        DUE.is("with 299 the highest slot has less", w.of(4, 5), 80);
        DUE.is("the one before has all", w.of(3, 5), 100);
        DUE.is("288 are drawn", w.count(9), 288);
    }

    private static PlugPins fiveOf(int current, int supply) {
        PlugPins x = new PlugPins();
        x.set(4, supply);
        for (int board = 0; board < 5; board++) {
            x.board(board, current);
            x.plug(board, board, 24);
        }
        return x;
    }

    /** A supply that is set below what is drawn takes nothing, and gives nothing, also what would be drawn as 0. */
    private static void supplyBelowWhatIsDrawn() {
        PlugPins x = put(60, 24);
        x.board(2, 1);
        x.plug(1, 1, 24);
        x.pass(2);
        DUE.is("drawn by both", x.count(9), 24);
        x.set(4, 23);
        x.pass(3);
        DUE.is("the power stays", x.of(0, 5), 40);
        DUE.is("that of the other one, too", x.of(1, 5), 40);
        x.set(4, 24);
        x.pass(1);
        DUE.is("36 are too much", x.of(0, 5), 40);
        DUE.is("nothing more is drawn by the other one", x.of(1, 5), 60);
    }

    /** "Divisions are rounded down": current * power / 100, for each board. */
    private static void drawIsRoundedDown() {
        for (int current = 1; current <= 60; current++) {
            PlugPins x = put(current, 24);
            x.set(1, 33);
            int[] powers = {33, 66, 99, 100};
            for (int power : powers) {
                x.pass(1);
                DUE.is("draw of " + current + " with " + power, x.count(9), current * power / 100);
            }
        }
    }

    private static void drawOfAllBoards() {
        PlugPins x = fiveOf(3, 120);
        x.set(1, 33);
        x.pass(1);
        DUE.is("five times 3 * 33 / 100", x.count(9), 0);
        x.pass(1);
        DUE.is("five times 3 * 66 / 100", x.count(9), 5);
        x.pass(1);
        DUE.is("five times 3 * 99 / 100", x.count(9), 10);
        x.pass(1);
        DUE.is("five times 3", x.count(9), 15);
    }

    /** "(A board on the shelf has no power.)" */
    private static void noPowerOnTheShelf() {
        PlugPins x = Edges.atDepth(24);
        x.pass(5);
        x.pull(0, 24);
        x.pass(1);
        DUE.is("power on the shelf", x.of(0, 5), 0);
        DUE.is("draw", x.count(9), 0);
        x.pass(9);
        DUE.is("also later", x.of(0, 5), 0);
        x.plug(0, 4, 24);
        x.pass(1);
        DUE.is("it begins anew", x.of(0, 5), 20);
    }

    // ---- step 3: greeting

    private static void shortPinsTouchFrom20On() {
        for (int depth = 14; depth <= 24; depth++) {
            PlugPins x = Edges.atDepth(depth);
            stay(x, depth, 20);
            DUE.is("known at the depth " + depth, x.of(0, 6), depth < 20 ? 0 : 1);
        }
    }

    /** Keeps a board that moves inward at a depth, or one off it on the same side of 20; one at 24 stands there. */
    private static void stay(PlugPins x, int depth, int times) {
        for (int i = 0; i < times; i++) {
            boolean isInward = i % 2 == (depth < 20 ? 1 : 0);
            if (depth < 24 && isInward) {
                x.plug(0, 0, 1);
            } else if (depth < 24) {
                x.pull(0, 1);
            }
            x.pass(1);
        }
    }

    private static void greetedWithAPowerOf100() {
        PlugPins x = put(1, 24);
        x.set(1, 1);
        x.set(3, 1);
        for (int power = 1; power <= 100; power++) {
            x.pass(1);
            DUE.is("power", x.of(0, 5), power);
            DUE.is("known with a power of " + power, x.of(0, 6), power < 100 ? 0 : 1);
        }
    }

    /** "with GREET ticks or more it is known". */
    private static void greetTicks() {
        for (int greet = 1; greet <= 9; greet++) {
            PlugPins x = put(1, 24);
            x.set(3, greet);
            x.pass(4);
            for (int tick = 1; tick <= 10; tick++) {
                x.pass(1);
                DUE.is("known with GREET " + greet + " after " + tick, x.of(0, 6), tick < greet ? 0 : 1);
                DUE.is("greeted", x.of(0, 8), tick < greet ? tick : 0);
            }
        }
        for (int greet = 1; greet <= 9; greet++) {
            PlugPins x = put(1, 24);
            x.set(3, 9);
            x.pass(9);
            x.set(3, greet);
            DUE.is("greeted for 5 ticks", x.of(0, 8), 5);
            DUE.is("not known by set()", x.of(0, 6), 0);
            x.pass(1);
            DUE.is("6 ticks are GREET " + greet + " or more", x.of(0, 6), greet <= 6 ? 1 : 0);
        }
    }

    /** "whose short pins do not touch is not known, and its greeting begins anew". */
    private static void greetingBeginsAnewBelow20() {
        for (int depth = 8; depth <= 24; depth++) {
            PlugPins x = put(1, 24);
            x.set(3, 9);
            x.pass(6);
            DUE.is("greeted", x.of(0, 8), 2);
            x.pull(0, Math.max(1, 24 - depth));
            x.pass(1);
            DUE.is("greeted at the depth " + depth, x.of(0, 8), depth < 20 ? 0 : 3);
            DUE.is("its power", x.of(0, 5), 100);
        }
    }

    private static void knownBoardsStayKnownFrom20On() {
        for (int depth = 20; depth < 24; depth++) {
            PlugPins x = Due.withKnown(1);
            x.pull(0, 24 - depth);
            x.pass(1);
            DUE.is("known at the depth " + depth, x.of(0, 6), 1);
            DUE.is("too soon", x.count(12), 0);
            x.plug(0, 0, 1);
            x.pass(1);
            DUE.is("known as it comes back", x.of(0, 6), 1);
        }
    }

    private static void becomesNotKnownBelow20() {
        for (int depth = 0; depth < 20; depth++) {
            PlugPins x = Due.withKnown(1);
            x.pull(0, 24 - depth);
            x.pass(1);
            DUE.is("known at the depth " + depth, x.of(0, 6), 0);
            DUE.is("too soon", x.of(0, 10), 1);
            x.pass(1);
            DUE.is("once", x.of(0, 10), 1);
        }
    }

    // ---- steps 4 and 5: words

    /** LENGTH ticks on the bus, from the tick in which a word gets on. */
    private static void lengthTicks() {
        for (int length = 1; length <= 9; length++) {
            PlugPins x = Due.withKnown(2);
            x.set(2, length);
            x.send(0, 1);
            x.pass(1);
            for (int left = length; left >= 1; left--) {
                DUE.is("on the bus with LENGTH " + length, x.word(0, 2), 1);
                DUE.is("ticks", x.word(0, 4), left);
                x.pass(1);
            }
            DUE.is("delivered", x.word(0, 2), 2);
            DUE.is("no ticks", x.word(0, 4), 0);
        }
    }

    private static void oneWordOnTheBusAtMost() {
        PlugPins x = Due.withKnown(5);
        Due.run(x, "w01;w23;w34;w42;w10");
        for (int tick = 1; tick <= 17; tick++) {
            x.pass(1);
            int onBus = 0;
            for (int word = 0; word < 5; word++) {
                onBus += x.word(word, 2) == 1 ? 1 : 0;
            }
            DUE.is("words on the bus after " + tick, onBus, tick <= 15 ? 1 : 0);
            DUE.is("the one on the bus", x.count(7), tick <= 15 ? (tick - 1) / 3 : -6);
        }
    }

    /** Ten words, the most at once, get on in the order in which they were sent. */
    private static void wordsInTheirOrder() {
        PlugPins x = Due.withKnown(2);
        x.set(2, 1);
        Due.run(x, "w01;w10;w01;w10;w01;w10;w01;w10;w01;w10");
        for (int word = 0; word < 10; word++) {
            DUE.is("the first that waits", x.waiting(0), word);
            DUE.is("the last that waits", x.waiting(9 - word), 9);
            DUE.is("behind it", x.waiting(10 - word), -1);
            x.pass(1);
            DUE.is("on the bus", x.count(7), word);
            DUE.is("delivered so far", x.count(5), word);
        }
        x.pass(1);
        DUE.is("all are delivered", x.count(5), 10);
        DUE.is("none waits", x.waiting(0), -1);
    }

    /** "hurt for the third time it is lost, otherwise it begins anew (it stays on the bus, with LENGTH ticks)". */
    private static void hurtForTheThirdTime() {
        PlugPins x = Edges.twoKnown();
        x.set(0, 0);
        x.send(0, 1);
        x.pass(1);
        for (int hurts = 1; hurts <= 3; hurts++) {
            if (hurts == 2) {
                x.pull(2, 1);
            } else {
                x.plug(2, 2, hurts == 1 ? 14 : 1);
            }
            x.pass(1);
            DUE.is("hurt", x.word(0, 3), hurts);
            DUE.is("how it is, hurt " + hurts + " times", x.word(0, 2), hurts < 3 ? 1 : 3);
            DUE.is("its ticks", x.word(0, 4), hurts < 3 ? 3 : 0);
            DUE.is("on the bus", x.count(7), hurts < 3 ? 0 : -6);
            DUE.is("lost", x.count(6), hurts < 3 ? 0 : 1);
            DUE.is("hurts so far", x.count(11), hurts);
        }
        DUE.is("delivered", x.pass(9), 0);
    }

    private static void hurtWordHasTheLengthOfThen() {
        for (int length = 1; length <= 9; length++) {
            PlugPins x = Edges.twoKnown();
            x.send(0, 1);
            x.pass(3);
            DUE.is("one tick yet", x.word(0, 4), 1);
            x.set(2, length);
            x.plug(2, 2, 24);
            x.pass(1);
            DUE.is("it begins anew with LENGTH " + length, x.word(0, 4), length);
            DUE.is("delivered one tick too early", length > 1 ? x.pass(length - 1) : 0, 0);
            DUE.is("delivered after that", x.pass(1), 1);
        }
    }

    /** "some board is moving inward with a depth of 8 to 13". */
    private static void heldInwardFrom8To13() {
        for (int depth = 1; depth <= 24; depth++) {
            PlugPins x = Due.withKnown(2);
            x.board(3, 1);
            x.plug(2, 2, depth);
            x.pass(1);
            x.send(0, 1);
            DUE.is("held inward at " + depth, x.count(8), depth >= 8 && depth <= 13 ? 1 : 0);
            if (depth > 1) {
                PlugPins y = Due.withKnown(2);
                y.board(3, 1);
                y.send(0, 1);
                y.plug(2, 2, depth);
                y.pass(1);
                DUE.is("a word got on at " + depth, y.count(7), depth >= 8 && depth <= 13 ? -6 : 0);
            }
        }
    }

    /** "or outward with a depth of 14 or more". */
    private static void heldOutwardFrom14On() {
        for (int depth = 0; depth <= 23; depth++) {
            PlugPins x = Due.withKnown(3);
            x.pull(2, 24 - depth);
            DUE.is("held at 24, as it is pulled", x.count(8), 1);
            x.send(0, 1);
            x.pass(1);
            DUE.is("held outward at " + depth, x.count(8), depth >= 14 ? 1 : 0);
            DUE.is("a word got on at " + depth, x.count(7), depth >= 14 ? -6 : 0);
        }
    }

    /** "It is held if HOLD is 1". */
    private static void notHeldWithHold0() {
        for (int depth = 1; depth <= 23; depth++) {
            PlugPins x = Edges.atDepth(depth);
            x.set(0, 0);
            DUE.is("inward", x.count(8), 0);
            x.pull(0, 1);
            DUE.is("outward", x.count(8), 0);
            x.set(0, 1);
            DUE.is("outward with HOLD 1 at " + depth, x.count(8), depth >= 14 ? 1 : 0);
        }
    }

    // ---- a board that comes to be not known

    /** "all words of it or to it that wait or are on the bus are lost"; the others are not. */
    private static void wordsOfABoardThatComesToBeNotKnown() {
        for (int board = 0; board < 5; board++) {
            PlugPins x = Due.withKnown(5);
            Due.run(x, "w01;w12;w23;w34;w40;w02;w13;w24;w30;w41");
            x.set(2, 9);
            x.pass(1);
            x.pull(board, 24);
            x.pass(1);
            int[][] ends = {{0, 1}, {1, 2}, {2, 3}, {3, 4}, {4, 0}, {0, 2}, {1, 3}, {2, 4}, {3, 0}, {4, 1}};
            for (int word = 0; word < 10; word++) {
                boolean isOfIt = ends[word][0] == board || ends[word][1] == board;
                int other = word == firstOfOthers(board) ? 1 : 0;
                DUE.is("word " + word + " without the board " + board, x.word(word, 2), isOfIt ? 3 : other);
            }
            DUE.is("lost", x.count(6), 4);
        }
    }

    /** The word 0 stays on the bus unless it is of the board 0 or 1; then the next one gets on, though there is a plug. */
    private static int firstOfOthers(int board) {
        return board == 0 ? 1 : board == 1 ? 2 : 0;
    }

    /** "if it did not ask to leave, it was pulled too soon: that is counted; its asking is over". */
    private static void pulledTooSoonUnlessItAsked() {
        for (int board = 0; board < 5; board++) {
            PlugPins x = Due.withKnown(5);
            x.ask(board);
            for (int each = 0; each < 5; each++) {
                x.pull(each, 5);
            }
            x.pass(1);
            for (int each = 0; each < 5; each++) {
                DUE.is("too soon", x.of(each, 10), each == board ? 0 : 1);
                DUE.is("asking", x.of(each, 7), 0);
            }
            DUE.is("all of them", x.count(12), 4);
        }
    }
}
