import java.util.function.ToIntFunction;

/** The sentences of the promises 15 to 19 that name an edge: reasons, errors in their order, NONE, and that nothing changes. */
public final class EdgesOfWhatIfTest {
    private static final Due DUE = new Due("EdgesOfWhatIfTest");
    private static final Edges EDGES = new Edges(DUE);
    private static final int MIN = Integer.MIN_VALUE;
    private static final int MAX = Integer.MAX_VALUE;

    public static void main(String[] args) {
        whyOfBoardsThatThereAre();
        whyOfTheSame();
        whyTheFirstReason();
        whyIsWhatSendDoes();
        knownInOfBoardsThatThereAre();
        knownInOnTheShelf();
        knownInIs0IfItIs();
        knownInByItsTicks();
        knownInIsNone();
        knownInAtItsLatest();
        hurtErrorsAreThoseOfPlug();
        hurtSpeeds();
        hurtErrorsInTheirOrder();
        hurtsByTheTicksOfTheWord();
        hurtsFromEachDepth();
        hurtsOfAnyBoardUntilItStands();
        safeErrorsAreThoseOfPlug();
        safeErrorsInTheirOrder();
        safeSpeedByTheTicksOfTheWord();
        safeSpeedIsNone();
        safeSpeedIs24();
        quietInIs0();
        quietInByItsWords();
        quietInAsTheBusIsHeld();
        quietInAsWordsAreLost();
        timeDoesNotMatter();
        nothingChanges();
        DUE.end();
    }

    // ---- promise 15: why

    /** "NO_SUCH if there is no such board". */
    private static void whyOfBoardsThatThereAre() {
        EDGES.range("why() from", () -> Due.withKnown(5), (x, n) -> x.why(n, n == 0 ? 1 : 0), 0, 4, -1, n -> 0);
        EDGES.range("why() to", () -> Due.withKnown(5), (x, n) -> x.why(n == 0 ? 1 : 0, n), 0, 4, -1, n -> 0);
        for (int board : new int[] {-1, 5, 8, MIN, MAX}) {
            EDGES.refused("from no board, ahead of all", Edges::busy, x -> x.why(board, 4), -1);
            EDGES.refused("to no board, ahead of a reason", Edges::busy, x -> x.why(4, board), -1);
            EDGES.refused("no board twice, ahead of the same", Edges::busy, x -> x.why(board, board), -1);
        }
    }

    /** "BAD_VALUE if both are the same". */
    private static void whyOfTheSame() {
        for (int board = 0; board < 5; board++) {
            int same = board;
            EDGES.refused("why() of the same", Edges::busy, x -> x.why(same, same), -2);
        }
    }

    /** "Returns the first of these that is so: 1 [..]; 2 [..]; 3 [..]; 0: it can". */
    private static void whyTheFirstReason() {
        int[][] due = {
            {-2, 0, 3, 2, 2},
            {0, -2, 3, 2, 2},
            {3, 3, -2, 2, 2},
            {1, 1, 1, -2, 1},
            {1, 1, 1, 1, -2}};
        for (int from = 0; from < 5; from++) {
            for (int to = 0; to < 5; to++) {
                DUE.is("why(" + from + ", " + to + ")", Edges.busy().why(from, to), due[from][to]);
            }
        }
        PlugPins x = Edges.busy();
        x.ask(0);
        DUE.is("both have asked", x.why(0, 2), 3);
        x.pull(2, 24);
        x.pass(1);
        DUE.is("the other one is not known, the first one has asked", x.why(0, 2), 2);
        DUE.is("the first one is not known, the other one has asked", x.why(2, 0), 1);
    }

    private static void whyIsWhatSendDoes() {
        for (int from = -1; from <= 5; from++) {
            for (int to = -1; to <= 5; to++) {
                int why = Edges.busy().why(from, to);
                int due = why < 0 ? why : why > 0 ? -5 : 4;
                DUE.is("send(" + from + ", " + to + ")", Edges.busy().send(from, to), due);
            }
        }
    }

    // ---- promise 16: knownIn

    /** "NO_SUCH if there is no such board". */
    private static void knownInOfBoardsThatThereAre() {
        EDGES.range("knownIn()", () -> Due.withKnown(5), PlugPins::knownIn, 0, 4, -1, n -> 0);
        DUE.is("without boards", new PlugPins().knownIn(0), -1);
    }

    /** "NOT_POSSIBLE if it is on the shelf". */
    private static void knownInOnTheShelf() {
        EDGES.refused("on the shelf", Edges::busy, x -> x.knownIn(4), -5);
        PlugPins x = Due.withKnown(1);
        x.pull(0, 23);
        x.pass(1);
        DUE.is("in its slot at the depth 1: not on the shelf", x.knownIn(0), -6);
        x.pass(1);
        DUE.is("on the shelf again", x.knownIn(0), -5);
        x.plug(0, 0, 24);
        DUE.is("in its slot at the depth 0", x.knownIn(0), 6);
    }

    /** "(0 if it is)". */
    private static void knownInIs0IfItIs() {
        PlugPins x = Edges.shelf(1);
        x.plug(0, 0, 24);
        x.pass(5);
        DUE.is("one tick ahead", x.knownIn(0), 1);
        x.pass(1);
        DUE.is("it is", x.knownIn(0), 0);
        x.ask(0);
        DUE.is("it is, and has asked", x.knownIn(0), 0);
        x.pull(0, 24);
        DUE.is("it is, and will not be in the next tick", x.knownIn(0), 0);
        x.pass(1);
        DUE.is("it is not", x.knownIn(0), -5);
    }

    /** Power from the tick on in which the long pins touch, a greeting from full power and short pins that touch. */
    private static void knownInByItsTicks() {
        int[] softs = {1, 2, 7, 20, 33, 49, 50};
        for (int speed = 1; speed <= 24; speed++) {
            for (int soft : softs) {
                for (int greet = 1; greet <= 9; greet++) {
                    PlugPins x = Edges.shelf(1);
                    x.set(1, soft);
                    x.set(3, greet);
                    x.plug(0, 0, speed);
                    int full = up(8, speed) + up(100, soft) - 1;
                    int due = Math.max(full, up(20, speed)) + greet - 1;
                    DUE.is("knownIn() at the speed " + speed + ", SOFT " + soft + ", GREET " + greet, x.knownIn(0), due);
                    passAll(x, due - 1);
                    DUE.is("not known one tick ahead", x.of(0, 6), 0);
                    x.pass(1);
                    DUE.is("known then", x.of(0, 6), 1);
                }
            }
        }
    }

    private static int up(int way, int speed) {
        return (way + speed - 1) / speed;
    }

    private static void passAll(PlugPins x, int ticks) {
        for (int left = ticks; left > 0; left -= 99) {
            x.pass(Math.min(99, left));
        }
    }

    /** "NONE if it is not within 200". */
    private static void knownInIsNone() {
        PlugPins x = Edges.shelf(1);
        x.plug(0, 0, 24);
        x.pull(0, 1);
        DUE.is("on its way out at the depth 0", x.knownIn(0), -6);
        PlugPins y = Edges.atDepth(19);
        y.pull(0, 1);
        DUE.is("on its way out at the depth 19", y.knownIn(0), -6);
        PlugPins z = new PlugPins();
        z.board(1, 11);
        z.set(4, 10);
        z.plug(0, 0, 24);
        DUE.is("a supply of 10 for a current of 11", z.knownIn(0), -6);
        z.set(4, 11);
        DUE.is("a supply of 11", z.knownIn(0), 6);
        PlugPins w = Edges.atDepth(24);
        w.pass(4);
        w.pull(0, 3);
        DUE.is("two ticks of a greeting, one at 21 alone", w.knownIn(0), 1);
        w.pull(0, 5);
        DUE.is("at 19 its greeting begins anew", w.knownIn(0), -6);
    }

    /**
     * The latest answers that come about: until another board's long pins part, it takes all of the supply, so that
     * this one comes to the power 1, with which it draws 60 * 1 / 100, and no further.
     */
    private static void knownInAtItsLatest() {
        DUE.is("the other board is in a lower slot", latest(0, 1), 123);
        DUE.is("the other board is in a higher slot", latest(4, 3), 124);
    }

    private static int latest(int slot, int waitingSlot) {
        PlugPins x = new PlugPins();
        x.board(1, 60);
        x.board(2, 60);
        x.set(4, 60);
        x.set(1, 50);
        x.plug(0, slot, 24);
        x.pass(2);
        x.set(1, 1);
        x.set(3, 9);
        x.plug(1, waitingSlot, 24);
        x.pass(1);
        DUE.is("as long as the other one stands", x.knownIn(1), -6);
        x.pull(0, 1);
        int answer = x.knownIn(1);
        passAll(x, answer - 1);
        DUE.is("not known one tick ahead", x.of(1, 6), 0);
        x.pass(1);
        DUE.is("known then", x.of(1, 6), 1);
        return answer;
    }

    // ---- promise 17: wouldHurt

    private static final int[] BOARDS = {MIN, -1, 0, 1, 2, 3, 4, 5, 8, MAX};
    private static final int[] SLOTS = {MIN, -6, -1, 0, 1, 2, 3, 4, 5, MAX};
    private static final int[] SPEEDS = {MIN, -1, 0, 1, 24, 25, MAX};

    /** "errors as for plug()". */
    private static void hurtErrorsAreThoseOfPlug() {
        for (int board : BOARDS) {
            for (int slot : SLOTS) {
                for (int speed : SPEEDS) {
                    int plug = Edges.busy().plug(board, slot, speed);
                    int due = Math.min(plug, 0);
                    DUE.is("wouldHurt(" + board + ", " + slot + ", " + speed + ")", Math.min(0, Edges.busy().wouldHurt(board, slot, speed)), due);
                }
            }
        }
        EDGES.range("wouldHurt() of boards", () -> Edges.shelf(8), (x, n) -> x.wouldHurt(n, 0, 1), 0, 7, -1, n -> 0);
        EDGES.range("wouldHurt() of slots", () -> Edges.shelf(8), (x, n) -> x.wouldHurt(0, n, 1), 0, 4, -1, n -> 0);
        EDGES.refused("another slot", Edges::busy, x -> x.wouldHurt(3, 4, 1), -5);
        EDGES.refused("another board", Edges::busy, x -> x.wouldHurt(4, 3, 1), -5);
        EDGES.refused("the depth 24", Edges::busy, x -> x.wouldHurt(1, 1, 1), -5);
    }

    /** "speed: 1 to 24". */
    private static void hurtSpeeds() {
        EDGES.range("wouldHurt() at a speed", () -> Edges.shelf(1), (x, n) -> x.wouldHurt(0, 0, n), 1, 24, -2, n -> 0);
        EDGES.range("wouldHurt() of one on its way", Edges::busy, (x, n) -> x.wouldHurt(3, 3, n), 1, 24, -2, n -> n < 2 ? 0 : 1);
    }

    private static void hurtErrorsInTheirOrder() {
        EDGES.refused("no board and a bad speed", Edges::busy, x -> x.wouldHurt(5, 4, 0), -1);
        EDGES.refused("no slot and a bad speed", Edges::busy, x -> x.wouldHurt(4, 5, 25), -1);
        EDGES.refused("a bad speed into a taken slot", Edges::busy, x -> x.wouldHurt(4, 0, 25), -2);
        EDGES.refused("a bad speed into another slot", Edges::busy, x -> x.wouldHurt(0, 4, 0), -2);
        EDGES.refused("a bad speed at the depth 24", Edges::busy, x -> x.wouldHurt(0, 0, -1), -2);
    }

    /** A word with so many ticks is hurt if the middle pins touch in one of them. */
    private static void hurtsByTheTicksOfTheWord() {
        for (int length = 1; length <= 9; length++) {
            for (int speed = 1; speed <= 24; speed++) {
                PlugPins x = wordOnTheBus(length);
                int due = up(14, speed) <= length ? 1 : 0;
                DUE.is("a word of " + length + " ticks, at the speed " + speed, x.wouldHurt(2, 2, speed), due);
                x.plug(2, 2, speed);
                x.pass(up(24, speed));
                DUE.is("it stands", x.of(2, 4), 100);
                DUE.is("what comes to be", x.count(11), due);
            }
        }
    }

    private static PlugPins wordOnTheBus(int length) {
        PlugPins x = Edges.twoKnown();
        x.set(2, length);
        x.send(0, 1);
        x.pass(1);
        return x;
    }

    /** "or one in this slot moves inward on": from each of its depths, with a word of 8 ticks more. */
    private static void hurtsFromEachDepth() {
        for (int depth = 1; depth < 14; depth++) {
            for (int speed = 1; speed <= 24; speed++) {
                PlugPins x = wordOnTheBus(9);
                x.plug(2, 2, depth);
                x.pass(1);
                DUE.is("from the depth " + depth + " at " + speed, x.wouldHurt(2, 2, speed), up(14 - depth, speed) <= 8 ? 1 : 0);
            }
        }
        for (int depth = 14; depth < 24; depth++) {
            PlugPins x = wordOnTheBus(9);
            x.plug(2, 2, depth);
            x.pass(1);
            DUE.is("hurt before", x.count(11), 1);
            DUE.is("from the depth " + depth, x.wouldHurt(2, 2, 1), 0);
        }
    }

    /** "by plugs of any boards, if a board was plugged now, until it stands": with the tick in which it comes to stand. */
    private static void hurtsOfAnyBoardUntilItStands() {
        for (int otherTicks = 1; otherTicks <= 13; otherTicks++) {
            for (int speed = 1; speed <= 24; speed++) {
                PlugPins x = neverQuietBus();
                x.plug(3, 3, 14 - otherTicks);
                x.pass(1);
                x.plug(3, 3, 1);
                int own = up(14, speed);
                int due = own == otherTicks || otherTicks > up(24, speed) ? 1 : 2;
                DUE.is("the other one touches in " + otherTicks + ", this one at " + speed, x.wouldHurt(2, 2, speed), due);
            }
        }
        PlugPins x = neverQuietBus();
        x.board(3, 1);
        for (int board = 3; board < 5; board++) {
            x.plug(board, board, 7);
        }
        DUE.is("three in one tick", x.wouldHurt(2, 2, 7), 1);
        x.plug(4, 4, 5);
        x.pass(1);
        x.pull(3, 1);
        DUE.is("this one in the first tick, another in the second", x.wouldHurt(2, 2, 14), 2);
    }

    /** HOLD is 0, and for many ticks to come there is a word on the bus in each; two boards are on the shelf. */
    private static PlugPins neverQuietBus() {
        PlugPins x = Edges.twoKnown();
        x.board(51, 1);
        x.set(0, 0);
        x.set(2, 9);
        Due.run(x, "w01;w10;w01;w10;w01;w10;w01;w10;w01;w10");
        x.pass(1);
        return x;
    }

    // ---- promise 18: safeSpeed

    /** "errors as for plug(), but for the speed". */
    private static void safeErrorsAreThoseOfPlug() {
        for (int board : BOARDS) {
            for (int slot : SLOTS) {
                int plug = Edges.busy().plug(board, slot, 1);
                int safe = Edges.busy().safeSpeed(board, slot);
                DUE.is("safeSpeed(" + board + ", " + slot + ")", plug < 0 ? safe : safe >= 1 || safe == -6 ? 0 : safe, Math.min(plug, 0));
            }
        }
        EDGES.range("safeSpeed() of boards", () -> Edges.shelf(8), (x, n) -> x.safeSpeed(n, 0), 0, 7, -1, n -> 24);
        EDGES.range("safeSpeed() of slots", () -> Edges.shelf(8), (x, n) -> x.safeSpeed(0, n), 0, 4, -1, n -> 24);
    }

    private static void safeErrorsInTheirOrder() {
        EDGES.refused("no board, into a taken slot", Edges::busy, x -> x.safeSpeed(5, 0), -1);
        EDGES.refused("no slot, for one in a slot", Edges::busy, x -> x.safeSpeed(0, 5), -1);
        EDGES.refused("another slot", Edges::busy, x -> x.safeSpeed(3, 4), -5);
        EDGES.refused("another board", Edges::busy, x -> x.safeSpeed(4, 3), -5);
        EDGES.refused("the depth 24", Edges::busy, x -> x.safeSpeed(1, 1), -5);
    }

    private static void safeSpeedByTheTicksOfTheWord() {
        int[] due = {13, 6, 4, 3, 2, 2, 1, 1, 1};
        for (int length = 1; length <= 9; length++) {
            DUE.is("a word of " + length + " ticks", wordOnTheBus(length).safeSpeed(2, 2), due[length - 1]);
        }
        PlugPins x = wordOnTheBus(9);
        for (int left = 9; left >= 1; left--) {
            DUE.is("with " + left + " ticks yet", x.safeSpeed(2, 2), due[left - 1]);
            x.pass(1);
        }
        DUE.is("with none", x.safeSpeed(2, 2), 24);
    }

    /** "NONE if there is none". */
    private static void safeSpeedIsNone() {
        for (int depth = 1; depth < 14; depth++) {
            PlugPins x = wordOnTheBus(9);
            x.plug(2, 2, depth);
            x.pass(1);
            DUE.is("from the depth " + depth + " with 8 ticks", x.safeSpeed(2, 2), depth <= 5 ? 1 : -6);
        }
        DUE.is("the bus is never quiet", neverQuietBus().safeSpeed(2, 2), -6);
        PlugPins x = neverQuietBus();
        x.plug(3, 3, 24);
        DUE.is("by another board in the next tick", x.safeSpeed(2, 2), -6);
    }

    private static void safeSpeedIs24() {
        DUE.is("without words", Edges.twoKnown().safeSpeed(2, 2), 24);
        PlugPins x = Edges.twoKnown();
        x.send(0, 1);
        DUE.is("a word gets on in the tick of the plug, behind it", x.safeSpeed(2, 2), 24);
        PlugPins y = wordOnTheBus(9);
        y.pull(0, 24);
        DUE.is("the word is lost ahead of the plug", y.safeSpeed(2, 2), 24);
        PlugPins z = neverQuietBus();
        z.plug(2, 2, 14);
        z.pass(1);
        DUE.is("the middle pins touch already", z.safeSpeed(2, 2), 24);
        DUE.is("at each speed", z.wouldHurt(2, 2, 1), 0);
    }

    // ---- promise 19: quietIn

    /** "(0 if there are none)". */
    private static void quietInIs0() {
        DUE.is("a new object", new PlugPins().quietIn(), 0);
        DUE.is("no words were sent", Due.withKnown(2).quietIn(), 0);
        PlugPins x = wordOnTheBus(1);
        DUE.is("one tick on the bus", x.quietIn(), 1);
        x.pass(1);
        DUE.is("delivered", x.quietIn(), 0);
        PlugPins y = Due.withKnown(2);
        y.send(0, 1);
        y.pull(0, 24);
        DUE.is("lost in the next tick", y.quietIn(), 1);
        y.pass(1);
        DUE.is("lost", y.quietIn(), 0);
    }

    private static void quietInByItsWords() {
        for (int words = 1; words <= 10; words++) {
            for (int length = 1; length <= 9; length++) {
                PlugPins x = Due.withKnown(2);
                x.set(2, length);
                for (int word = 0; word < words; word++) {
                    x.send(0, 1);
                }
                int due = 1 + words * length;
                DUE.is(words + " words of " + length + " ticks", x.quietIn(), due);
                DUE.is("not all are delivered one tick ahead", x.pass(due - 1), words - 1);
                DUE.is("one tick yet", x.quietIn(), 1);
                DUE.is("the last one is", x.pass(1), 1);
            }
        }
    }

    private static void quietInAsTheBusIsHeld() {
        PlugPins x = Due.withKnown(3);
        x.send(0, 1);
        x.pull(2, 1);
        DUE.is("held until the depth 13, in the eleventh tick", x.quietIn(), 14);
        x.set(0, 0);
        DUE.is("not held with HOLD 0: hurt in the eleventh tick if it was there", x.quietIn(), 4);
        PlugPins y = Edges.twoKnown();
        y.plug(2, 2, 8);
        y.pass(1);
        y.plug(2, 2, 1);
        y.send(0, 1);
        DUE.is("held until the depth 14, in the sixth tick", y.quietIn(), 9);
        PlugPins z = wordOnTheBus(9);
        z.plug(2, 2, 2);
        DUE.is("hurt in the seventh tick", z.quietIn(), 16);
    }

    private static void quietInAsWordsAreLost() {
        PlugPins x = neverQuietBus();
        x.pull(0, 5);
        DUE.is("all are lost in the next tick", x.quietIn(), 1);
        x.pull(0, 4);
        DUE.is("or in the one after it", x.quietIn(), 2);
        PlugPins y = neverQuietBus();
        y.plug(2, 2, 14);
        y.pass(1);
        y.pull(2, 1);
        y.pass(1);
        y.plug(2, 2, 1);
        DUE.is("one is hurt for the third time in the next tick, nine go on", y.quietIn(), 1 + 81);
    }

    // ---- all of them

    /** "(the bound of the time does not matter)": at 9999 they answer as they do at any time. */
    private static void timeDoesNotMatter() {
        sameAtTheEnd("knownIn(2)", x -> x.plug(2, 2, 1) + x.set(1, 1) + x.set(3, 9), x -> x.knownIn(2), 115);
        sameAtTheEnd("quietIn()", x -> x.set(2, 9) + Due.run(x, "w01;w10;w01;w10;w01;w10;w01;w10;w01;w10"), PlugPins::quietIn, 91);
        sameAtTheEnd("wouldHurt() at 1", x -> x.set(0, 0) + x.set(2, 9) + Due.run(x, "w01;w10;w01;w10"), x -> x.wouldHurt(2, 2, 1), 1);
        sameAtTheEnd("safeSpeed()", x -> x.set(0, 0) + x.set(2, 9) + Due.run(x, "w01"), x -> x.safeSpeed(2, 2), 24);
        sameAtTheEnd("why()", x -> x.ask(0), x -> x.why(0, 1), 3);
    }

    private static void sameAtTheEnd(String name, ToIntFunction<PlugPins> before, ToIntFunction<PlugPins> call, int due) {
        for (int time : new int[] {9, 9990, 9998, 9999}) {
            PlugPins x = Edges.twoKnown();
            passAll(x, time - 8);
            before.applyAsInt(x);
            DUE.is(name + " at the time " + time, call.applyAsInt(x), due);
            DUE.is("the time", x.count(0), time);
        }
    }

    /** "what if; nothing changes". */
    private static void nothingChanges() {
        EDGES.refused("why()", Edges::busy, x -> x.why(0, 1), 0);
        EDGES.refused("knownIn()", Edges::busy, x -> x.knownIn(3), 5);
        EDGES.refused("knownIn() of a known one", Edges::busy, x -> x.knownIn(1), 0);
        EDGES.refused("wouldHurt() of one on the shelf", Edges::busy, x -> x.wouldHurt(4, 4, 24), 1);
        EDGES.refused("wouldHurt() of one on its way", Edges::busy, x -> x.wouldHurt(3, 3, 1), 0);
        EDGES.refused("safeSpeed()", Edges::busy, x -> x.safeSpeed(3, 3), 1);
        EDGES.refused("safeSpeed() of one on the shelf", Edges::busy, x -> x.safeSpeed(4, 4), -6);
        EDGES.refused("quietIn()", Edges::busy, PlugPins::quietIn, 10);
        EDGES.refused("quietIn() of none", PlugPins::new, PlugPins::quietIn, 0);
        EDGES.refused("knownIn(), with a short history", Edges::shortHistory, x -> x.knownIn(0), 0);
        EDGES.refused("quietIn(), with a short history", Edges::shortHistory, PlugPins::quietIn, 4);
    }
}
