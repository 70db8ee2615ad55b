/** The sentences of the promises 9 to 14 that name an edge: what can be asked for, NONE, what is empty and what is full. */
public final class EdgesOfAnswersTest {
    private static final Due DUE = new Due("EdgesOfAnswersTest");
    private static final Edges EDGES = new Edges(DUE);
    private static final int MIN = Integer.MIN_VALUE;
    private static final int MAX = Integer.MAX_VALUE;

    public static void main(String[] args) {
        ofBoardsThatThereAre();
        ofWhatThereIs();
        ofErrorsInTheirOrder();
        ofItsWordAndCurrent();
        ofItsSlot();
        ofItsSpeed();
        ofItsPower();
        ofItsGreeting();
        ofWordsThatItSent();
        ofPulledTooSoon();
        slotsThatThereAre();
        slotsThatAreTaken();
        wordsThatThereAre();
        wordWhatThereIs();
        wordErrorsInTheirOrder();
        wordInEachOfItsStates();
        waitingRanks();
        waitingAsNoneWaits();
        countWhatThereIs();
        countSetsOfBoards();
        countTheWordOnTheBus();
        countTheSettings();
        countThePad();
        countTheChanges();
        countTheTime();
        knownWords();
        knownIsTheLowestOne();
        knownAsThereIsNone();
        answersChangeNothing();
        DUE.end();
    }

    // ---- promise 9: of

    /** "NO_SUCH if there is no such board". */
    private static void ofBoardsThatThereAre() {
        for (int boards = 1; boards <= 8; boards++) {
            int most = boards;
            EDGES.range("of() with " + most + " boards", () -> Edges.shelf(most), (x, n) -> x.of(n, 1), 0, most - 1, -1, n -> 1);
        }
        EDGES.range("of() as all is busy", Edges::busy, (x, n) -> x.of(n, 10), 0, 4, -1, n -> 0);
        DUE.is("without boards", new PlugPins().of(0, 0), -1);
    }

    /** "BAD_VALUE if what is out of range". */
    private static void ofWhatThereIs() {
        int[] due = {5, 10, 2, 24, 100, 100, 1, 1, 0, 0, 0};
        EDGES.range("of() as all is busy", Edges::busy, (x, n) -> x.of(2, n), 0, 10, -2, n -> due[n]);
        int[] onItsWay = {9, 12, 3, 10, 105, 20, 0, 0, 0, 0, 0};
        EDGES.range("of() of one on its way", Edges::busy, (x, n) -> x.of(3, n), 0, 10, -2, n -> onItsWay[n]);
        int[] onTheShelf = {0, 60, -6, 0, 100, 0, 0, 0, 0, 0, 0};
        EDGES.range("of() of one on the shelf", Edges::busy, (x, n) -> x.of(4, n), 0, 10, -2, n -> onTheShelf[n]);
    }

    private static void ofErrorsInTheirOrder() {
        int[][] both = {{5, 11}, {-1, -1}, {8, 11}, {MIN, MIN}, {MAX, MAX}, {5, MIN}, {MAX, -1}};
        for (int[] one : both) {
            EDGES.refused("no such board, first", Edges::busy, x -> x.of(one[0], one[1]), -1);
        }
        DUE.is("no board and no such what", new PlugPins().of(0, 11), -1);
    }

    private static void ofItsWordAndCurrent() {
        int[][] boards = {{0, 1}, {99, 60}, {0, 60}, {99, 1}};
        PlugPins x = new PlugPins();
        for (int board = 0; board < boards.length; board++) {
            x.board(boards[board][0], boards[board][1]);
            DUE.is("its word", x.of(board, 0), boards[board][0]);
            DUE.is("its current", x.of(board, 1), boards[board][1]);
        }
    }

    /** "2 its slot (NONE), 3 its depth (0 on the shelf)". */
    private static void ofItsSlot() {
        for (int slot = 0; slot < 5; slot++) {
            PlugPins x = Edges.shelf(1);
            DUE.is("none at first", x.of(0, 2), -6);
            DUE.is("its depth on the shelf", x.of(0, 3), 0);
            x.plug(0, slot, 1);
            DUE.is("its slot at the depth 0", x.of(0, 2), slot);
            x.pass(1);
            DUE.is("its depth", x.of(0, 3), 1);
            x.pull(0, 1);
            x.pass(1);
            DUE.is("none again", x.of(0, 2), -6);
            DUE.is("its depth on the shelf again", x.of(0, 3), 0);
        }
    }

    /** "4 its speed and 100": from 76 to 124, 100 if it stands or is on the shelf. */
    private static void ofItsSpeed() {
        PlugPins x = Edges.shelf(1);
        DUE.is("on the shelf", x.of(0, 4), 100);
        x.plug(0, 0, 24);
        DUE.is("inward at 24", x.of(0, 4), 124);
        x.plug(0, 0, 1);
        DUE.is("inward at 1", x.of(0, 4), 101);
        x.pull(0, 1);
        DUE.is("outward at 1", x.of(0, 4), 99);
        x.pull(0, 24);
        DUE.is("outward at 24", x.of(0, 4), 76);
        x.pass(1);
        DUE.is("on the shelf again", x.of(0, 4), 100);
    }

    private static void ofItsPower() {
        PlugPins x = Edges.shelf(1);
        x.set(1, 49);
        x.plug(0, 0, 24);
        int[] due = {0, 49, 98, 100, 100};
        for (int power : due) {
            DUE.is("its power", x.of(0, 5), power);
            x.pass(1);
        }
    }

    /** "8 ticks of its greeting so far (0 if it is known)". */
    private static void ofItsGreeting() {
        PlugPins x = Edges.shelf(1);
        x.set(3, 9);
        x.plug(0, 0, 24);
        x.pass(4);
        for (int tick = 1; tick <= 8; tick++) {
            x.pass(1);
            DUE.is("ticks so far", x.of(0, 8), tick);
            DUE.is("not known yet", x.of(0, 6), 0);
        }
        x.pass(1);
        DUE.is("known", x.of(0, 6), 1);
        DUE.is("0 if it is known", x.of(0, 8), 0);
        x.pass(9);
        DUE.is("it is not greeted any more", x.of(0, 8), 0);
    }

    /** "9 words that it sent and that were delivered so far". */
    private static void ofWordsThatItSent() {
        PlugPins x = Due.withKnown(3);
        x.set(2, 1);
        Due.run(x, "w01;w02;w10");
        DUE.is("none is delivered yet", x.of(0, 9), 0);
        x.pass(2);
        DUE.is("one is", x.of(0, 9), 1);
        x.pass(1);
        DUE.is("two are", x.of(0, 9), 2);
        DUE.is("the other one's is on the bus", x.of(1, 9), 0);
        x.pass(1);
        DUE.is("the other one's is delivered", x.of(1, 9), 1);
        DUE.is("one that sent none", x.of(2, 9), 0);
        x.send(0, 1);
        x.pull(1, 24);
        x.pass(1);
        DUE.is("one that is lost does not count", x.of(0, 9), 2);
        DUE.is("on the shelf, what was delivered counts yet", x.of(1, 9), 1);
    }

    private static void ofPulledTooSoon() {
        PlugPins x = Due.withKnown(2);
        for (int times = 1; times <= 20; times++) {
            x.pull(0, 5);
            x.pass(1);
            DUE.is("pulled too soon", x.of(0, 10), times);
            x.plug(0, 0, 5);
            x.pass(2);
        }
        DUE.is("the other one", x.of(1, 10), 0);
        DUE.is("all of them", x.count(12), 20);
    }

    // ---- promise 10: slot

    /** "NO_SUCH if there is no such slot; NONE if there is none". */
    private static void slotsThatThereAre() {
        EDGES.range("slot() of a new object", PlugPins::new, PlugPins::slot, 0, 4, -1, n -> -6);
        EDGES.range("slot() as all is busy", Edges::busy, PlugPins::slot, 0, 4, -1, n -> n < 4 ? n : -6);
    }

    private static void slotsThatAreTaken() {
        PlugPins x = Edges.shelf(8);
        for (int slot = 0; slot < 5; slot++) {
            x.plug(7 - slot, slot, 24);
        }
        for (int slot = 0; slot < 5; slot++) {
            DUE.is("all are taken, at the depth 0", x.slot(slot), 7 - slot);
        }
        x.pass(1);
        DUE.is("the first one", x.slot(0), 7);
        x.pull(7, 23);
        x.pass(1);
        DUE.is("at the depth 1", x.slot(0), 7);
        x.pass(1);
        DUE.is("it left", x.slot(0), -6);
    }

    // ---- promise 11: word

    /** "NO_SUCH if there is no such word". */
    private static void wordsThatThereAre() {
        EDGES.range("word() as all is busy", Edges::busy, (x, n) -> x.word(n, 3), 0, 3, -1, n -> 0);
        for (int sent = 1; sent <= 10; sent++) {
            int most = sent;
            EDGES.range("word() with " + most + " words", () -> waitingWords(most), (x, n) -> x.word(n, 1), 0, most - 1, -1, n -> 1);
        }
        DUE.is("without words", new PlugPins().word(0, 0), -1);
        PlugPins x = Edges.shortHistory();
        DUE.is("the only one", x.word(0, 1), 1);
        x.undo();
        DUE.is("it is undone", x.word(0, 1), -1);
    }

    private static PlugPins waitingWords(int words) {
        PlugPins x = Due.withKnown(2);
        for (int word = 0; word < words; word++) {
            x.send(0, 1);
        }
        return x;
    }

    /** "BAD_VALUE if what is out of range". */
    private static void wordWhatThereIs() {
        int[] due = {1, 0, 1, 0, 2};
        EDGES.range("word() of the one on the bus", Edges::busy, (x, n) -> x.word(1, n), 0, 4, -2, n -> due[n]);
        int[] delivered = {0, 1, 2, 0, 0};
        EDGES.range("word() of one that was delivered", Edges::busy, (x, n) -> x.word(0, n), 0, 4, -2, n -> delivered[n]);
        int[] waits = {0, 1, 0, 0, 0};
        EDGES.range("word() of one that waits", Edges::busy, (x, n) -> x.word(3, n), 0, 4, -2, n -> waits[n]);
    }

    private static void wordErrorsInTheirOrder() {
        int[][] both = {{4, 5}, {-1, -1}, {200, 5}, {MIN, MIN}, {MAX, MAX}, {4, MIN}, {-6, -6}};
        for (int[] one : both) {
            EDGES.refused("no such word, first", Edges::busy, x -> x.word(one[0], one[1]), -1);
        }
        DUE.is("no word and no such what", new PlugPins().word(0, 5), -1);
    }

    /** "2 how it is, 0 to 3 [..] 4 ticks that it has on the bus yet (0 if it is not there)". */
    private static void wordInEachOfItsStates() {
        PlugPins x = waitingWords(2);
        DUE.is("it waits", x.word(0, 2), 0);
        DUE.is("no ticks yet", x.word(0, 4), 0);
        x.pass(1);
        DUE.is("on the bus", x.word(0, 2), 1);
        DUE.is("three ticks", x.word(0, 4), 3);
        x.pass(2);
        DUE.is("one tick", x.word(0, 4), 1);
        x.pass(1);
        DUE.is("delivered", x.word(0, 2), 2);
        DUE.is("no ticks any more", x.word(0, 4), 0);
        DUE.is("the other one has three", x.word(1, 4), 3);
        x.pull(0, 24);
        x.pass(1);
        DUE.is("lost", x.word(1, 2), 3);
        DUE.is("no ticks any more", x.word(1, 4), 0);
        DUE.is("the first one is as it was", x.word(0, 2), 2);
    }

    // ---- promise 12: waiting

    /** "rank: 0 for the first one"; "NO_SUCH if there are not so many". */
    private static void waitingRanks() {
        for (int words = 1; words <= 10; words++) {
            int most = words;
            EDGES.range("waiting() of " + most, () -> waitingWords(most), PlugPins::waiting, 0, most - 1, -1, n -> n);
        }
        EDGES.range("waiting() as all is busy", Edges::busy, PlugPins::waiting, 0, 1, -1, n -> n + 2);
    }

    private static void waitingAsNoneWaits() {
        DUE.is("without words", new PlugPins().waiting(0), -1);
        PlugPins x = waitingWords(1);
        DUE.is("one waits", x.waiting(0), 0);
        x.pass(1);
        DUE.is("the one on the bus does not wait", x.waiting(0), -1);
        x.pass(3);
        DUE.is("delivered", x.waiting(0), -1);
        PlugPins y = waitingWords(10);
        y.pull(1, 24);
        y.pass(1);
        DUE.is("all of ten are lost", y.waiting(0), -1);
    }

    // ---- promise 13: count

    /** "BAD_VALUE if what is out of range". */
    private static void countWhatThereIs() {
        int[] due = {0, 0, 0, 0, 0, 0, 0, -6, 0, 0, 0, 0, 0, 1, 20, 3, 2, 120, 0, 0};
        EDGES.range("count() of a new object", PlugPins::new, PlugPins::count, 0, 19, -2, n -> due[n]);
        int[] busy = {14, 31, 15, 7, 4, 1, 0, 1, 1, 62, 1, 0, 0, 1, 20, 3, 2, 120, 9, 6};
        EDGES.range("count() as all is busy", Edges::busy, PlugPins::count, 0, 19, -2, n -> busy[n]);
    }

    /** "1 boards, 2 those in slots, 3 those that are known, as sets"; "Sets of boards are bit masks." */
    private static void countSetsOfBoards() {
        for (int boards = 0; boards <= 8; boards++) {
            DUE.is("boards", Edges.shelf(boards).count(1), (1 << boards) - 1);
            DUE.is("none in a slot", Edges.shelf(boards).count(2), 0);
            DUE.is("none known", Edges.shelf(boards).count(3), 0);
        }
        for (int board = 0; board < 8; board++) {
            PlugPins x = Edges.shelf(8);
            x.plug(board, 4, 24);
            DUE.is("in a slot", x.count(2), 1 << board);
            x.pass(5);
            DUE.is("not known yet", x.count(3), 0);
            x.pass(1);
            DUE.is("known", x.count(3), 1 << board);
            x.pull(board, 5);
            x.pass(1);
            DUE.is("not known any more", x.count(3), 0);
            DUE.is("in the slot yet", x.count(2), 1 << board);
            x.pull(board, 24);
            x.pass(1);
            DUE.is("on the shelf", x.count(2), 0);
        }
    }

    /** "7 the word on the bus (NONE)". */
    private static void countTheWordOnTheBus() {
        PlugPins x = waitingWords(1);
        DUE.is("it waits", x.count(7), -6);
        x.pass(1);
        DUE.is("on the bus", x.count(7), 0);
        x.pass(3);
        DUE.is("delivered", x.count(7), -6);
    }

    private static void countTheSettings() {
        int[][] values = {{0, 1, 1, 1, 10}, {1, 50, 9, 9, 300}};
        for (int[] one : values) {
            PlugPins x = new PlugPins();
            for (int setting = 0; setting < 5; setting++) {
                x.set(setting, one[setting]);
            }
            for (int setting = 0; setting < 5; setting++) {
                DUE.is("the setting " + setting, x.count(13 + setting), one[setting]);
            }
        }
    }

    private static void countThePad() {
        PlugPins x = new PlugPins();
        for (int length = 1; length <= 80; length++) {
            x.put('!');
            DUE.is("the length of the pad", x.count(18), length);
        }
        x.put('!');
        DUE.is("no more than 80", x.count(18), 80);
        x.wipe();
        DUE.is("empty again", x.count(18), 0);
    }

    private static void countTheChanges() {
        PlugPins x = new PlugPins();
        for (int changes = 1; changes <= 9; changes++) {
            x.set(0, 1);
            DUE.is("changes", x.count(19), Math.min(changes, 6));
        }
        for (int left = 5; left >= 0; left--) {
            x.undo();
            DUE.is("changes yet", x.count(19), left);
        }
        x.undo();
        DUE.is("none", x.count(19), 0);
    }

    private static void countTheTime() {
        PlugPins x = new PlugPins();
        for (int round = 1; round <= 101; round++) {
            x.pass(99);
            DUE.is("the time", x.count(0), 99 * round);
        }
        x.pass(99);
        DUE.is("no later than 9999", x.count(0), 9999);
    }

    // ---- promise 14: known

    /** "word: 0 to 99"; "BAD_VALUE if word is out of range; NONE if there is none". */
    private static void knownWords() {
        EDGES.range("known() of a new object", PlugPins::new, PlugPins::known, 0, 99, -2, n -> -6);
        EDGES.range("known() as all is busy", Edges::busy, PlugPins::known, 0, 99, -2, n -> n == 7 ? 0 : n == 9 ? 1 : n == 5 ? 2 : -6);
        for (int word : new int[] {0, 99}) {
            PlugPins x = new PlugPins();
            x.board(word, 1);
            x.plug(0, 0, 24);
            x.pass(6);
            DUE.is("known(" + word + ")", x.known(word), 0);
        }
    }

    /** "Returns the lowest one with it". */
    private static void knownIsTheLowestOne() {
        PlugPins x = new PlugPins();
        for (int board = 0; board < 8; board++) {
            x.board(42, 1);
        }
        for (int slot = 0; slot < 5; slot++) {
            x.plug(7 - slot, slot, 24);
        }
        x.pass(6);
        DUE.is("the lowest of five", x.known(42), 3);
        for (int board = 3; board < 8; board++) {
            DUE.is("the lowest of those that are left", x.known(42), board);
            x.pull(board, 5);
            x.pass(1);
        }
        DUE.is("none is left", x.known(42), -6);
    }

    private static void knownAsThereIsNone() {
        PlugPins x = Edges.shelf(1);
        DUE.is("on the shelf", x.known(0), -6);
        x.plug(0, 0, 24);
        x.pass(5);
        DUE.is("greeted yet", x.known(0), -6);
        x.pass(1);
        DUE.is("known", x.known(0), 0);
        x.ask(0);
        DUE.is("known, though it has asked", x.known(0), 0);
        x.pull(0, 4);
        x.pass(1);
        DUE.is("at the depth 20", x.known(0), 0);
        x.pass(1);
        DUE.is("at the depth 16", x.known(0), -6);
    }

    private static void answersChangeNothing() {
        EDGES.refused("of()", Edges::busy, x -> x.of(1, 0), 9);
        EDGES.refused("slot()", Edges::busy, x -> x.slot(3), 3);
        EDGES.refused("slot() that is free", Edges::busy, x -> x.slot(4), -6);
        EDGES.refused("word()", Edges::busy, x -> x.word(1, 4), 2);
        EDGES.refused("waiting()", Edges::busy, x -> x.waiting(1), 3);
        EDGES.refused("count()", Edges::busy, x -> x.count(9), 62);
        EDGES.refused("known()", Edges::busy, x -> x.known(9), 1);
        EDGES.refused("known() of none", Edges::busy, x -> x.known(1), -6);
    }
}
