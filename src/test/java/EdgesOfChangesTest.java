/** The sentences of the promises 1 to 8 that name an edge: ranges, errors in their order, what is full or empty. */
public final class EdgesOfChangesTest {
    private static final Due DUE = new Due("EdgesOfChangesTest");
    private static final Edges EDGES = new Edges(DUE);
    private static final int MIN = Integer.MIN_VALUE;
    private static final int MAX = Integer.MAX_VALUE;

    public static void main(String[] args) {
        newObjectHasNoBoards();
        newObjectHasNoWords();
        newObjectHasNothingElse();
        settingsThatThereAre();
        valuesOfSettings();
        setReturnsThePreviousValue();
        wordsOfBoards();
        currentsOfBoards();
        eightBoards();
        boardErrorsInTheirOrder();
        plugOfBoardsThatThereAre();
        plugIntoSlotsThatThereAre();
        plugSpeeds();
        plugReturnsTheDepth();
        plugAtTheDepth24();
        plugInAnotherSlot();
        plugIntoATakenSlot();
        plugAsAllSlotsAreTaken();
        plugErrorsInTheirOrder();
        plugEndsTheAsking();
        pullOfBoardsThatThereAre();
        pullSpeeds();
        pullReturnsTheDepth();
        pullOnTheShelf();
        pullErrorsInTheirOrder();
        askOfBoardsThatThereAre();
        askReturnsHowManyWords();
        askOfABoardThatIsNotKnown();
        askOfABoardThatHasAsked();
        noWordsOfABoardThatHasAsked();
        sendOfBoardsThatThereAre();
        sendToTheSame();
        sendThatIsNotPossible();
        tenWordsThatWait();
        nineThatWaitAndOneOnTheBus();
        twoHundredWords();
        sendErrorsInTheirOrder();
        ticksOfPass();
        timeUpTo9999();
        passErrorsInTheirOrder();
        DUE.end();
    }

    // ---- promise 1: a new object

    private static void newObjectHasNoBoards() {
        DUE.is("boards", new PlugPins().count(1), 0);
        DUE.is("boards in slots", new PlugPins().count(2), 0);
        DUE.is("known boards", new PlugPins().count(3), 0);
        DUE.is("of(0, 0)", new PlugPins().of(0, 0), -1);
        DUE.is("plug(0, 0, 1)", new PlugPins().plug(0, 0, 1), -1);
        DUE.is("pull(0, 1)", new PlugPins().pull(0, 1), -1);
        DUE.is("ask(0)", new PlugPins().ask(0), -1);
        DUE.is("send(0, 1)", new PlugPins().send(0, 1), -1);
        DUE.is("send(0, 0)", new PlugPins().send(0, 0), -1);
        DUE.is("why(0, 0)", new PlugPins().why(0, 0), -1);
        DUE.is("knownIn(0)", new PlugPins().knownIn(0), -1);
        DUE.is("wouldHurt(0, 0, 1)", new PlugPins().wouldHurt(0, 0, 1), -1);
        DUE.is("safeSpeed(0, 0)", new PlugPins().safeSpeed(0, 0), -1);
        DUE.is("the first board", new PlugPins().board(0, 1), 0);
    }

    private static void newObjectHasNoWords() {
        DUE.is("words sent", new PlugPins().count(4), 0);
        DUE.is("the word on the bus", new PlugPins().count(7), -6);
        DUE.is("word(0, 0)", new PlugPins().word(0, 0), -1);
        DUE.is("waiting(0)", new PlugPins().waiting(0), -1);
        DUE.is("quietIn()", new PlugPins().quietIn(), 0);
    }

    private static void newObjectHasNothingElse() {
        DUE.is("the time", new PlugPins().count(0), 0);
        DUE.is("a tick passes all the same", new PlugPins().pass(1), 0);
        DUE.is("the pad", new PlugPins().count(18), 0);
        DUE.is("its fault", new PlugPins().fault(), 0);
        DUE.is("wipe()", new PlugPins().wipe(), 0);
        DUE.is("carryOut()", new PlugPins().carryOut(), -3);
        DUE.is("changes", new PlugPins().count(19), 0);
        DUE.is("undo()", new PlugPins().undo(), -5);
        DUE.is("restore(0)", new PlugPins().restore(0), -5);
        DUE.is("restore(1)", new PlugPins().restore(1), -5);
        DUE.is("save(0)", new PlugPins().save(0), 0);
    }

    // ---- promise 2: set

    private static final int[] LOWEST = {0, 1, 1, 1, 10};
    private static final int[] HIGHEST = {1, 50, 9, 9, 300};
    private static final int[] FIRST = {1, 20, 3, 2, 120};

    /** "BAD_VALUE if there is no such setting". */
    private static void settingsThatThereAre() {
        EDGES.range("a setting", PlugPins::new, (x, n) -> x.set(n, n == 4 ? 10 : 1), 0, 4, -2, n -> FIRST[n]);
        EDGES.range("a setting, as all is busy", Edges::busy, (x, n) -> x.set(n, n == 4 ? 10 : 1), 0, 4, -2, n -> FIRST[n]);
        for (int setting : new int[] {-1, 5, MIN, MAX}) {
            for (int value : new int[] {MIN, -1, 0, 1, 10, 301, MAX}) {
                DUE.is("set(" + setting + ", " + value + ")", new PlugPins().set(setting, value), -2);
            }
        }
    }

    /** "or the value is out of its range". */
    private static void valuesOfSettings() {
        for (int setting = 0; setting < 5; setting++) {
            int one = setting;
            EDGES.range("a value of the setting " + one, PlugPins::new, (x, n) -> x.set(one, n), LOWEST[one], HIGHEST[one], -2, n -> FIRST[one]);
            EDGES.range("a value, as all is busy", Edges::busy, (x, n) -> x.set(one, n), LOWEST[one], HIGHEST[one], -2, n -> FIRST[one]);
            EDGES.range("a value that is kept", PlugPins::new, (x, n) -> x.set(one, n) < 0 ? -2 : x.count(13 + one), LOWEST[one], HIGHEST[one], -2, n -> n);
        }
    }

    private static void setReturnsThePreviousValue() {
        for (int setting = 0; setting < 5; setting++) {
            PlugPins x = new PlugPins();
            DUE.is("the first value", x.set(setting, HIGHEST[setting]), FIRST[setting]);
            DUE.is("the highest one", x.set(setting, LOWEST[setting]), HIGHEST[setting]);
            x.set(setting, HIGHEST[setting] + 1);
            DUE.is("the lowest one, as the other was refused", x.set(setting, FIRST[setting]), LOWEST[setting]);
            DUE.is("the first one again", x.set(setting, FIRST[setting]), FIRST[setting]);
        }
    }

    // ---- promise 3: board

    /** "word: 0 to 99". */
    private static void wordsOfBoards() {
        EDGES.range("a board's word", PlugPins::new, (x, n) -> x.board(n, 1), 0, 99, -2, n -> 0);
        EDGES.range("a board's word, as all is busy", Edges::busy, (x, n) -> x.board(n, 60), 0, 99, -2, n -> 5);
        EDGES.range("a word that is kept", PlugPins::new, (x, n) -> x.board(n, 1) < 0 ? -2 : x.of(0, 0), 0, 99, -2, n -> n);
    }

    /** "current: 1 to 60". */
    private static void currentsOfBoards() {
        EDGES.range("a board's current", PlugPins::new, (x, n) -> x.board(0, n), 1, 60, -2, n -> 0);
        EDGES.range("a board's current, as all is busy", Edges::busy, (x, n) -> x.board(99, n), 1, 60, -2, n -> 5);
        EDGES.range("a current that is kept", PlugPins::new, (x, n) -> x.board(0, n) < 0 ? -2 : x.of(0, 1), 1, 60, -2, n -> n);
    }

    /** "TOO_MANY if there are 8 boards". */
    private static void eightBoards() {
        for (int boards = 0; boards < 8; boards++) {
            DUE.is("one more than " + boards, Edges.shelf(boards).board(0, 1), boards);
        }
        EDGES.refused("the ninth board", () -> Edges.shelf(8), x -> x.board(0, 1), -4);
        EDGES.refused("the ninth board", EdgesOfChangesTest::busyWithEight, x -> x.board(99, 60), -4);
        PlugPins x = Edges.shelf(8);
        x.undo();
        DUE.is("the eighth again", x.board(0, 1), 7);
    }

    private static PlugPins busyWithEight() {
        PlugPins x = Edges.busy();
        x.board(1, 1);
        x.board(2, 2);
        x.board(3, 3);
        return x;
    }

    /** "BAD_VALUE if word or current is out of range; TOO_MANY if there are 8 boards". */
    private static void boardErrorsInTheirOrder() {
        int[][] bad = {{-1, 1}, {100, 60}, {0, 0}, {99, 61}, {-1, 0}, {100, 61}, {MIN, 1}, {MAX, 1}, {1, MIN}, {1, MAX}, {MAX, MIN}};
        for (int[] one : bad) {
            EDGES.refused("a board that is bad, and the ninth", () -> Edges.shelf(8), x -> x.board(one[0], one[1]), -2);
        }
    }

    // ---- promise 4: plug

    /** "NO_SUCH if there is no such board". */
    private static void plugOfBoardsThatThereAre() {
        EDGES.range("plug() of one board", () -> Edges.shelf(1), (x, n) -> x.plug(n, 0, 1), 0, 0, -1, n -> 0);
        EDGES.range("plug() of eight boards", () -> Edges.shelf(8), (x, n) -> x.plug(n, 0, 1), 0, 7, -1, n -> 0);
        for (int board : new int[] {-1, 5, 8, MIN, MAX}) {
            EDGES.refused("no board " + board, Edges::busy, x -> x.plug(board, 4, 1), -1);
        }
    }

    /** "or slot". */
    private static void plugIntoSlotsThatThereAre() {
        EDGES.range("plug() into a slot", () -> Edges.shelf(1), (x, n) -> x.plug(0, n, 1), 0, 4, -1, n -> 0);
        EDGES.range("the board's slot", () -> Edges.shelf(1), (x, n) -> x.plug(0, n, 1) < 0 ? -1 : x.of(0, 2), 0, 4, -1, n -> n);
        for (int slot : new int[] {-1, 5, -6, MIN, MAX}) {
            EDGES.refused("no slot " + slot, Edges::busy, x -> x.plug(4, slot, 1), -1);
            EDGES.refused("no slot " + slot, Edges::busy, x -> x.plug(0, slot, 1), -1);
        }
    }

    /** "speed: 1 to 24". */
    private static void plugSpeeds() {
        EDGES.range("plug() at a speed", () -> Edges.shelf(1), (x, n) -> x.plug(0, 0, n), 1, 24, -2, n -> 0);
        EDGES.range("plug() at a speed that is kept", () -> Edges.shelf(1), (x, n) -> x.plug(0, 0, n) < 0 ? -2 : x.of(0, 4), 1, 24, -2, n -> 100 + n);
        EDGES.range("plug() of one on its way", Edges::busy, (x, n) -> x.plug(3, 3, n), 1, 24, -2, n -> 10);
        EDGES.range("plug() as all is busy", Edges::busy, (x, n) -> x.plug(4, 4, n), 1, 24, -2, n -> 0);
    }

    /** "with the depth 0, and moves inward; or one in this slot moves inward on"; "Returns its depth". */
    private static void plugReturnsTheDepth() {
        PlugPins x = Edges.shelf(1);
        DUE.is("from the shelf", x.plug(0, 0, 24), 0);
        DUE.is("in this slot, at the depth 0", x.plug(0, 0, 5), 0);
        DUE.is("at the new speed", x.of(0, 4), 105);
        for (int depth = 1; depth < 24; depth++) {
            PlugPins y = Edges.atDepth(depth);
            DUE.is("in this slot, at the depth " + depth, y.plug(0, 0, 1), depth);
            y.pass(1);
            DUE.is("one deeper", y.of(0, 3), depth + 1);
            PlugPins z = Edges.atDepth(depth);
            z.pull(0, 24);
            DUE.is("on its way out, at the depth " + depth, z.plug(0, 0, 1), depth);
            DUE.is("it moves inward", z.of(0, 4), 101);
        }
    }

    /** "NOT_POSSIBLE if [..] it has the depth 24". */
    private static void plugAtTheDepth24() {
        EDGES.refused("it stands at the depth 24", () -> Edges.atDepth(24), x -> x.plug(0, 0, 1), -5);
        EDGES.refused("it stands at the depth 24", Edges::busy, x -> x.plug(1, 1, 24), -5);
        EDGES.refused("it is pulled at the depth 24", () -> pulledAt24(), x -> x.plug(0, 0, 1), -5);
    }

    private static PlugPins pulledAt24() {
        PlugPins x = Edges.atDepth(24);
        x.pull(0, 1);
        return x;
    }

    /** "NOT_POSSIBLE if it is in another slot". */
    private static void plugInAnotherSlot() {
        for (int slot = 1; slot < 5; slot++) {
            int other = slot;
            EDGES.refused("it is in another slot", () -> Edges.atDepth(3), x -> x.plug(0, other, 1), -5);
        }
        EDGES.refused("it is in another slot at the depth 0", () -> putToSlot0(), x -> x.plug(0, 4, 1), -5);
        EDGES.refused("it stands in another slot", Edges::busy, x -> x.plug(0, 4, 1), -5);
        PlugPins x = Edges.atDepth(3);
        x.pull(0, 3);
        x.pass(1);
        DUE.is("it left the other slot", x.plug(0, 4, 1), 0);
    }

    private static PlugPins putToSlot0() {
        PlugPins x = Edges.shelf(2);
        x.plug(0, 0, 1);
        return x;
    }

    /** "NOT_POSSIBLE if [..] the slot has another board". */
    private static void plugIntoATakenSlot() {
        EDGES.refused("another board at the depth 0", () -> putToSlot0(), x -> x.plug(1, 0, 1), -5);
        for (int slot = 0; slot < 4; slot++) {
            int taken = slot;
            EDGES.refused("another board in " + slot, Edges::busy, x -> x.plug(4, taken, 24), -5);
        }
        PlugPins x = Edges.atDepth(3);
        x.pull(0, 2);
        x.pass(1);
        DUE.is("another board at the depth 1, on its way out", x.plug(1, 0, 1), -5);
        x.pass(1);
        DUE.is("it left the slot", x.plug(1, 0, 1), 0);
    }

    private static void plugAsAllSlotsAreTaken() {
        for (int slot = 0; slot < 5; slot++) {
            int taken = slot;
            EDGES.refused("all slots are taken", () -> allTaken(), x -> x.plug(5, taken, 1), -5);
        }
        PlugPins x = allTaken();
        x.pull(4, 1);
        x.pass(24);
        DUE.is("one is free", x.plug(5, 4, 1), 0);
        DUE.is("full again", x.plug(4, 4, 1), -5);
    }

    private static PlugPins allTaken() {
        PlugPins x = Due.withKnown(5);
        x.board(1, 1);
        return x;
    }

    /** "NO_SUCH if there is no such board or slot; BAD_VALUE if speed is out of range; NOT_POSSIBLE if [..]". */
    private static void plugErrorsInTheirOrder() {
        int[][] noSuch = {{5, 4, 0}, {-1, 0, 25}, {5, 5, 1}, {4, 5, 0}, {0, -1, 25}, {5, 0, 1}, {MIN, MAX, MIN}, {MAX, MIN, MAX}, {8, 2, 24}};
        for (int[] one : noSuch) {
            EDGES.refused("no such board or slot, first", Edges::busy, x -> x.plug(one[0], one[1], one[2]), -1);
        }
        int[][] badValue = {{0, 0, 0}, {0, 4, 25}, {4, 0, 0}, {4, 3, -1}, {0, 1, 25}, {4, 2, MIN}, {3, 4, MAX}};
        for (int[] one : badValue) {
            EDGES.refused("speed out of range, then", Edges::busy, x -> x.plug(one[0], one[1], one[2]), -2);
        }
    }

    /** "it does not ask to leave any more". */
    private static void plugEndsTheAsking() {
        PlugPins x = Edges.busy();
        x.pull(2, 1);
        x.pass(1);
        DUE.is("it asks", x.of(2, 7), 1);
        DUE.is("its depth", x.plug(2, 2, 1), 23);
        DUE.is("it does not ask any more", x.of(2, 7), 0);
        DUE.is("it can ask again", x.ask(2), 1);
        EDGES.refused("refused at the depth 24: it asks yet", Edges::busy, y -> y.plug(2, 2, 1), -5);
    }

    // ---- promise 5: pull

    private static void pullOfBoardsThatThereAre() {
        EDGES.range("pull()", () -> Due.withKnown(5), (x, n) -> x.pull(n, 1), 0, 4, -1, n -> 24);
        for (int board : new int[] {-1, 5, 8, MIN, MAX}) {
            EDGES.refused("no board " + board, Edges::busy, x -> x.pull(board, 1), -1);
        }
    }

    /** "speed: 1 to 24". */
    private static void pullSpeeds() {
        EDGES.range("pull() at a speed", () -> Due.withKnown(1), (x, n) -> x.pull(0, n), 1, 24, -2, n -> 24);
        EDGES.range("pull() at a speed that is kept", () -> Due.withKnown(1), (x, n) -> x.pull(0, n) < 0 ? -2 : x.of(0, 4), 1, 24, -2, n -> 100 - n);
        EDGES.range("pull() of one on its way", Edges::busy, (x, n) -> x.pull(3, n), 1, 24, -2, n -> 10);
    }

    private static void pullReturnsTheDepth() {
        PlugPins x = putToSlot0();
        DUE.is("at the depth 0", x.pull(0, 1), 0);
        DUE.is("it is in the slot yet", x.of(0, 2), 0);
        for (int depth = 1; depth <= 24; depth++) {
            PlugPins y = Edges.atDepth(depth);
            DUE.is("at the depth " + depth, y.pull(0, 1), depth);
            DUE.is("pulled again", y.pull(0, 2), depth);
            DUE.is("at the new speed", y.of(0, 4), 98);
        }
    }

    /** "NOT_POSSIBLE if it is on the shelf". */
    private static void pullOnTheShelf() {
        EDGES.refused("on the shelf, from the beginning", Edges::busy, x -> x.pull(4, 1), -5);
        EDGES.refused("on the shelf again", EdgesOfChangesTest::leftSlot0, x -> x.pull(0, 24), -5);
    }

    private static PlugPins leftSlot0() {
        PlugPins x = Edges.busy();
        x.pull(0, 24);
        x.pass(1);
        return x;
    }

    /** "NO_SUCH if there is no such board; BAD_VALUE if speed is out of range; NOT_POSSIBLE if it is on the shelf". */
    private static void pullErrorsInTheirOrder() {
        int[][] noSuch = {{5, 0}, {-1, 25}, {MIN, MIN}, {MAX, MAX}, {8, -1}};
        for (int[] one : noSuch) {
            EDGES.refused("no such board, first", Edges::busy, x -> x.pull(one[0], one[1]), -1);
        }
        int[] badSpeeds = {0, 25, -1, -24, MIN, MAX};
        for (int speed : badSpeeds) {
            EDGES.refused("speed out of range, then", Edges::busy, x -> x.pull(4, speed), -2);
        }
    }

    // ---- promise 6: ask

    private static void askOfBoardsThatThereAre() {
        EDGES.range("ask()", () -> Due.withKnown(5), (x, n) -> x.ask(n), 0, 4, -1, n -> 0);
        for (int board : new int[] {-1, 5, 8, MIN, MAX}) {
            EDGES.refused("no board " + board, Edges::busy, x -> x.ask(board), -1);
        }
    }

    /** "Returns how many words of it or to it wait or are on the bus": from none to ten. */
    private static void askReturnsHowManyWords() {
        for (int words = 0; words <= 10; words++) {
            DUE.is(words + " that wait", wordsThatWait(words).ask(0), words);
            DUE.is(words + " that wait, to it", wordsThatWait(words).ask(1), words);
            PlugPins x = wordsThatWait(words);
            x.pass(1);
            DUE.is("one of " + words + " is on the bus", x.ask(0), words);
            x.undo();
            x.pass(99);
            DUE.is("all are delivered", x.ask(1), 0);
        }
    }

    private static PlugPins wordsThatWait(int words) {
        PlugPins x = Due.withKnown(2);
        for (int word = 0; word < words; word++) {
            x.send(0, 1);
        }
        return x;
    }

    /** "NOT_POSSIBLE if it is not known". */
    private static void askOfABoardThatIsNotKnown() {
        EDGES.refused("on the shelf", Edges::busy, x -> x.ask(4), -5);
        EDGES.refused("on its way", Edges::busy, x -> x.ask(3), -5);
        EDGES.refused("known before, on the shelf again", EdgesOfChangesTest::leftSlot0, x -> x.ask(0), -5);
        EDGES.refused("one tick of its greeting is wanting", () -> greetedBut(1), x -> x.ask(0), -5);
        DUE.is("none is wanting", greetedBut(0).ask(0), 0);
    }

    /** A board that is known in so many ticks. */
    private static PlugPins greetedBut(int ticks) {
        PlugPins x = Edges.shelf(1);
        x.plug(0, 0, 24);
        x.pass(6 - ticks);
        return x;
    }

    /** "NOT_POSSIBLE if [..] it has asked". */
    private static void askOfABoardThatHasAsked() {
        EDGES.refused("it has asked", Edges::busy, x -> x.ask(2), -5);
        PlugPins x = Edges.busy();
        x.pull(2, 24);
        x.pass(1);
        DUE.is("its asking is over, but it is not known", x.ask(2), -5);
        x.plug(2, 2, 24);
        x.pass(20);
        DUE.is("known again, it can ask", x.ask(2), 0);
    }

    /** "no more words are sent by it or to it, those that were sent go on". */
    private static void noWordsOfABoardThatHasAsked() {
        EDGES.refused("no word by it", Edges::busy, x -> x.send(2, 0), -5);
        EDGES.refused("no word to it", Edges::busy, x -> x.send(0, 2), -5);
        PlugPins x = Edges.busy();
        x.pass(30);
        DUE.is("its word was delivered", x.word(2, 2), 2);
    }

    // ---- promise 7: send

    /** "NO_SUCH if there is no such board". */
    private static void sendOfBoardsThatThereAre() {
        EDGES.range("send() from", () -> Due.withKnown(5), (x, n) -> x.send(n, n == 0 ? 1 : 0), 0, 4, -1, n -> 0);
        EDGES.range("send() to", () -> Due.withKnown(5), (x, n) -> x.send(n == 0 ? 1 : 0, n), 0, 4, -1, n -> 0);
        for (int board : new int[] {-1, 5, 8, MIN, MAX}) {
            EDGES.refused("from no board " + board, Edges::busy, x -> x.send(board, 0), -1);
            EDGES.refused("to no board " + board, Edges::busy, x -> x.send(0, board), -1);
            EDGES.refused("from and to no board " + board, Edges::busy, x -> x.send(board, board), -1);
        }
    }

    /** "BAD_VALUE if both are the same". */
    private static void sendToTheSame() {
        for (int board = 0; board < 5; board++) {
            int same = board;
            EDGES.refused("to itself: " + board, Edges::busy, x -> x.send(same, same), -2);
        }
    }

    /** "NOT_POSSIBLE if it cannot be sent, as why() tells". */
    private static void sendThatIsNotPossible() {
        for (int from = 0; from < 5; from++) {
            for (int to = 0; to < 5; to++) {
                int one = from;
                int other = to;
                if (from != to && Edges.busy().why(from, to) > 0) {
                    EDGES.refused("send(" + from + ", " + to + ")", Edges::busy, x -> x.send(one, other), -5);
                }
            }
        }
        DUE.is("0 to 1 can be sent", Edges.busy().send(0, 1), 4);
        DUE.is("1 to 0 can be sent", Edges.busy().send(1, 0), 4);
        EDGES.refused("the first is not known", Edges::busy, x -> x.send(3, 0), -5);
        EDGES.refused("the other is not known", Edges::busy, x -> x.send(0, 4), -5);
    }

    /** "TOO_MANY if 10 wait or are on the bus". */
    private static void tenWordsThatWait() {
        for (int words = 0; words < 10; words++) {
            DUE.is("one more than " + words, wordsThatWait(words).send(1, 0), words);
        }
        EDGES.refused("ten wait", () -> wordsThatWait(10), x -> x.send(1, 0), -4);
    }

    private static void nineThatWaitAndOneOnTheBus() {
        EDGES.refused("nine wait, one is on the bus", () -> tenWithOneOnTheBus(), x -> x.send(0, 1), -4);
        PlugPins x = tenWithOneOnTheBus();
        x.pass(2);
        DUE.is("one tick ahead of its delivery", x.send(0, 1), -4);
        x.pass(1);
        DUE.is("eight wait, one is on the bus", x.send(0, 1), 10);
        DUE.is("full again", x.send(0, 1), -4);
        PlugPins y = tenWithOneOnTheBus();
        y.pull(1, 24);
        y.pass(1);
        DUE.is("all of them are lost", y.count(6), 10);
        y.plug(1, 1, 24);
        y.pass(6);
        DUE.is("there is room again", y.send(0, 1), 10);
    }

    private static PlugPins tenWithOneOnTheBus() {
        PlugPins x = wordsThatWait(10);
        x.pass(1);
        return x;
    }

    /** "or 200 were sent". */
    private static void twoHundredWords() {
        DUE.is("the 199th", wordsSent(198).send(0, 1), 198);
        DUE.is("the 200th", wordsSent(199).send(0, 1), 199);
        DUE.is("the 201st", wordsSent(200).send(0, 1), -4);
        PlugPins x = wordsSent(200);
        DUE.is("none is open", x.quietIn(), 0);
        DUE.is("words sent", x.count(4), 200);
        DUE.is("delivered", x.count(5), 200);
        DUE.is("the last one", x.word(199, 2), 2);
        DUE.is("no other one", x.word(200, 2), -1);
        EDGES.refused("the 201st", () -> wordsSent(200), y -> y.send(1, 0), -4);
        EDGES.refused("to itself, with 200", () -> wordsSent(200), y -> y.send(0, 0), -2);
        EDGES.refused("not known, with 200", () -> wordsSent(200), y -> y.send(0, 2), -5);
        EDGES.refused("no such board, with 200", () -> wordsSent(200), y -> y.send(0, 3), -1);
        x.undo();
        DUE.is("after an undo", x.count(4), 200);
        x.undo();
        DUE.is("the last ten are undone", x.count(4), 190);
        DUE.is("and can be sent again", x.send(1, 0), 190);
    }

    /** So many words were sent and delivered, by texts of ten; a third board is on the shelf. */
    private static PlugPins wordsSent(int words) {
        PlugPins x = Edges.twoKnown();
        x.set(2, 1);
        for (int left = words; left > 0; left -= 10) {
            StringBuilder text = new StringBuilder("w01");
            for (int i = 1; i < Math.min(left, 10); i++) {
                text.append(";w10");
            }
            Due.run(x, text.toString());
            x.pass(11);
        }
        return x;
    }

    /** "NO_SUCH [..]; BAD_VALUE [..]; NOT_POSSIBLE [..]; TOO_MANY [..]". */
    private static void sendErrorsInTheirOrder() {
        EDGES.refused("no such board, with ten", () -> fullAndAsked(), x -> x.send(0, 3), -1);
        EDGES.refused("no such board, twice", () -> fullAndAsked(), x -> x.send(3, 3), -1);
        EDGES.refused("the same, with ten", () -> fullAndAsked(), x -> x.send(0, 0), -2);
        EDGES.refused("the same, not known", () -> fullAndAsked(), x -> x.send(2, 2), -2);
        EDGES.refused("not known, with ten", () -> fullAndAsked(), x -> x.send(2, 0), -5);
        EDGES.refused("it has asked, with ten", () -> fullAndAsked(), x -> x.send(0, 1), -5);
    }

    private static PlugPins fullAndAsked() {
        PlugPins x = tenWithOneOnTheBus();
        x.board(9, 9);
        x.ask(1);
        return x;
    }

    // ---- promise 8: pass

    /** "ticks: 1 to 99". */
    private static void ticksOfPass() {
        EDGES.range("pass()", PlugPins::new, (x, n) -> x.pass(n), 1, 99, -2, n -> 0);
        EDGES.range("the time after pass()", PlugPins::new, (x, n) -> x.pass(n) < 0 ? -2 : x.count(0), 1, 99, -2, n -> n);
        EDGES.range("pass() as all is busy", Edges::busy, (x, n) -> x.pass(n) < 0 ? -2 : x.count(0), 1, 99, -2, n -> 14 + n);
    }

    /** "NOT_POSSIBLE if the time would be above 9999". */
    private static void timeUpTo9999() {
        DUE.is("99 ticks to 9999", atTime(9900).pass(99), 0);
        EDGES.refused("99 ticks to 10000", () -> atTime(9901), x -> x.pass(99), -5);
        DUE.is("98 ticks to 9999", atTime(9901).pass(98), 0);
        DUE.is("a tick to 9999", atTime(9998).pass(1), 0);
        EDGES.refused("two ticks to 10000", () -> atTime(9998), x -> x.pass(2), -5);
        EDGES.refused("a tick to 10000", () -> atTime(9999), x -> x.pass(1), -5);
        EDGES.refused("99 ticks at the end", () -> atTime(9999), x -> x.pass(99), -5);
        PlugPins x = atTime(9998);
        x.pass(1);
        DUE.is("the last time", x.count(0), 9999);
        x.undo();
        DUE.is("undone", x.count(0), 9998);
        DUE.is("it can pass again", x.pass(1), 0);
    }

    /** At this time, with two known boards and one on the shelf. */
    private static PlugPins atTime(int time) {
        PlugPins x = Edges.twoKnown();
        x.save(0);
        for (int passed = 8; passed < time; passed += 99) {
            x.pass(Math.min(99, time - passed));
        }
        return x;
    }

    /** "BAD_VALUE if ticks is out of range; NOT_POSSIBLE if [..]". */
    private static void passErrorsInTheirOrder() {
        for (int ticks : new int[] {0, 100, -1, MIN, MAX}) {
            EDGES.refused("out of range, at the end of the time", () -> atTime(9999), x -> x.pass(ticks), -2);
        }
    }
}
