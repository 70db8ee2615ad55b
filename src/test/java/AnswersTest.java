/** Promises 9 to 14: what there is. */
public final class AnswersTest {
    private static final Due DUE = new Due("AnswersTest");

    public static void main(String[] args) {
        ofBoards();
        ofErrors();
        slots();
        words();
        waitingWords();
        counts();
        sets();
        knownBoards();
        DUE.end();
    }

    private static PlugPins busy() {
        PlugPins x = new PlugPins();
        x.board(7, 20);
        x.board(9, 30);
        x.board(5, 50);
        x.plug(0, 0, 8);
        x.plug(1, 1, 6);
        x.pass(12);
        x.send(0, 1);
        x.send(1, 0);
        x.send(0, 1);
        x.pass(4);
        return x;
    }

    private static void ofBoards() {
        PlugPins x = busy();
        x.ask(1);
        x.pull(1, 2);
        x.plug(2, 4, 3);
        x.pass(1);
        int[][] due = {
            {7, 20, 0, 24, 100, 100, 1, 0, 0, 1, 0},
            {9, 30, 1, 22, 98, 100, 1, 1, 0, 0, 0},
            {5, 50, 4, 3, 103, 0, 0, 0, 0, 0, 0}};
        for (int board = 0; board < 3; board++) {
            for (int what = 0; what < 11; what++) {
                DUE.is("of(" + board + ", " + what + ")", x.of(board, what), due[board][what]);
            }
        }
        x.pull(0, 24);
        x.pass(1);
        int[] gone = {7, 20, -6, 0, 100, 0, 0, 0, 0, 1, 1};
        for (int what = 0; what < 11; what++) {
            DUE.is("gone: of(0, " + what + ")", x.of(0, what), gone[what]);
        }
    }

    private static void ofErrors() {
        PlugPins x = busy();
        DUE.is("of(3, 0)", x.of(3, 0), -1);
        DUE.is("of(-1, 0)", x.of(-1, 0), -1);
        DUE.is("of(8, 0)", x.of(8, 0), -1);
        DUE.is("of(3, 11): the board first", x.of(3, 11), -1);
        DUE.is("of(0, 11)", x.of(0, 11), -2);
        DUE.is("of(0, -1)", x.of(0, -1), -2);
        for (int end : Due.ENDS) {
            DUE.is("of(" + end + ", 0)", x.of(end, 0), -1);
            DUE.is("of(0, " + end + ")", x.of(0, end), -2);
        }
    }

    private static void slots() {
        PlugPins x = busy();
        x.plug(2, 4, 1);
        int[] due = {0, 1, -6, -6, 2};
        for (int slot = 0; slot < 5; slot++) {
            DUE.is("slot(" + slot + ")", x.slot(slot), due[slot]);
        }
        DUE.is("slot(5)", x.slot(5), -1);
        DUE.is("slot(-1)", x.slot(-1), -1);
        DUE.is("slot(-6), as no slot has the number NONE", x.slot(-6), -1);
        for (int end : Due.ENDS) {
            DUE.is("slot(" + end + ")", x.slot(end), -1);
        }
    }

    private static void words() {
        PlugPins x = busy();
        x.plug(2, 4, 14);
        x.set(2, 5);
        x.pass(1);
        int[][] due = {{0, 1, 2, 0, 0}, {1, 0, 1, 1, 5}, {0, 1, 0, 0, 0}};
        for (int word = 0; word < 3; word++) {
            for (int what = 0; what < 5; what++) {
                DUE.is("word(" + word + ", " + what + ")", x.word(word, what), due[word][what]);
            }
        }
        x.pull(1, 24);
        x.pass(1);
        DUE.is("lost from the bus", x.word(1, 2), 3);
        DUE.is("its ticks", x.word(1, 4), 0);
        DUE.is("how often it was hurt", x.word(1, 3), 1);
        DUE.is("lost as it waited", x.word(2, 2), 3);
        DUE.is("delivered before", x.word(0, 2), 2);
        DUE.is("word(3, 0)", x.word(3, 0), -1);
        DUE.is("word(-1, 0)", x.word(-1, 0), -1);
        DUE.is("word(-6, 0)", x.word(-6, 4), -1);
        DUE.is("word(3, 5): the word first", x.word(3, 5), -1);
        DUE.is("word(0, 5)", x.word(0, 5), -2);
        DUE.is("word(0, -1)", x.word(0, -1), -2);
        for (int end : Due.ENDS) {
            DUE.is("word(" + end + ", 0)", x.word(end, 0), -1);
            DUE.is("word(0, " + end + ")", x.word(0, end), -2);
        }
    }

    private static void waitingWords() {
        PlugPins x = busy();
        DUE.is("waiting(0)", x.waiting(0), 2);
        DUE.is("waiting(1)", x.waiting(1), -1);
        DUE.is("waiting(-1)", x.waiting(-1), -1);
        x.send(1, 0);
        x.send(0, 1);
        DUE.is("waiting(2)", x.waiting(2), 4);
        DUE.is("waiting(1)", x.waiting(1), 3);
        DUE.is("waiting(3)", x.waiting(3), -1);
        x.pass(3);
        DUE.is("waiting(0)", x.waiting(0), 3);
        DUE.is("waiting(2)", x.waiting(2), -1);
        for (int end : Due.ENDS) {
            DUE.is("waiting(" + end + ")", x.waiting(end), -1);
        }
    }

    private static void counts() {
        PlugPins x = busy();
        x.set(2, 4);
        x.set(1, 19);
        x.set(3, 5);
        x.set(4, 100);
        x.plug(2, 4, 10);
        x.pass(1);
        Due.write(x, "t1;t");
        int[] due = {17, 7, 7, 3, 3, 1, 0, 1, 1, 59, 2, 0, 0, 1, 19, 4, 5, 100, 4, 6};
        for (int what = 0; what < due.length; what++) {
            DUE.is("count(" + what + ")", x.count(what), due[what]);
        }
        x.pass(1);
        DUE.is("plugs", x.count(10), 3);
        DUE.is("hurts", x.count(11), 1);
        DUE.is("not held any more", x.count(8), 0);
        x.pull(0, 24);
        x.pass(1);
        DUE.is("lost", x.count(6), 2);
        DUE.is("delivered", x.count(5), 1);
        DUE.is("too soon", x.count(12), 1);
        DUE.is("no word on the bus", x.count(7), -6);
        x.set(0, 0);
        DUE.is("HOLD", x.count(13), 0);
        DUE.is("count(20)", x.count(20), -2);
        DUE.is("count(-1)", x.count(-1), -2);
        for (int end : Due.ENDS) {
            DUE.is("count(" + end + ")", x.count(end), -2);
        }
    }

    private static void sets() {
        PlugPins x = new PlugPins();
        for (int board = 0; board < 8; board++) {
            x.board(board, 1);
            DUE.is("the set of boards", x.count(1), (2 << board) - 1);
        }
        x.plug(7, 0, 24);
        DUE.is("boards in slots", x.count(2), 128);
        x.plug(2, 4, 1);
        DUE.is("boards in slots", x.count(2), 132);
        DUE.is("known ones", x.count(3), 0);
        x.pass(6);
        DUE.is("known ones", x.count(3), 128);
        x.pull(7, 24);
        x.pass(1);
        DUE.is("boards in slots", x.count(2), 4);
        DUE.is("known ones", x.count(3), 0);
    }

    private static void knownBoards() {
        PlugPins x = new PlugPins();
        x.board(0, 1);
        x.board(99, 1);
        x.board(0, 1);
        x.board(50, 1);
        x.plug(2, 0, 24);
        x.plug(1, 1, 24);
        DUE.is("not known yet", x.known(0), -6);
        x.pass(6);
        DUE.is("known(0)", x.known(0), 2);
        DUE.is("known(99)", x.known(99), 1);
        DUE.is("on the shelf", x.known(50), -6);
        x.plug(0, 4, 24);
        x.pass(6);
        DUE.is("the lowest one", x.known(0), 0);
        x.ask(0);
        DUE.is("also if it has asked", x.known(0), 0);
        x.pull(0, 24);
        x.pass(1);
        DUE.is("the next one", x.known(0), 2);
        DUE.is("known(100)", x.known(100), -2);
        DUE.is("known(-1)", x.known(-1), -2);
        for (int end : Due.ENDS) {
            DUE.is("known(" + end + ")", x.known(end), -2);
        }
    }
}
