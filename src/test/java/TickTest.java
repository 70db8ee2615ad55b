/** The six steps of a tick, each with the depths, powers and words at its edges. */
public final class TickTest {
    private static final Due DUE = new Due("TickTest");

    public static void main(String[] args) {
        middlePins();
        longPins();
        softPower();
        supplyBySlots();
        supplyWithRounding();
        supplyOfOneThatParts();
        greeting();
        greetingBeginsAnew();
        greetingWithOtherSettings();
        shortPinsPart();
        hurtWords();
        plugOfTwoAtOnce();
        plugWithoutWord();
        lengthOfWords();
        holdInward();
        holdOutward();
        holdByAnyBoard();
        holdIsOff();
        wordsOfOneThatParts();
        wordLostAheadOfThePlug();
        DUE.end();
    }

    private static PlugPins plugged(int current, int speed) {
        PlugPins x = new PlugPins();
        x.board(1, current);
        x.plug(0, 0, speed);
        return x;
    }

    private static void middlePins() {
        PlugPins x = plugged(1, 13);
        x.pass(1);
        DUE.is("plugs at the depth 13", x.count(10), 0);
        x.plug(0, 0, 1);
        x.pass(1);
        DUE.is("plugs at the depth 14", x.count(10), 1);
        x.pass(10);
        DUE.is("plugs at the depth 24", x.count(10), 1);
        x.pull(0, 10);
        x.pass(1);
        DUE.is("plugs at the depth 14, outward", x.count(10), 1);
        x.pull(0, 1);
        x.pass(1);
        DUE.is("plugs at the depth 13, outward", x.count(10), 2);
        x.pass(13);
        DUE.is("plugs on the shelf", x.count(10), 2);
        DUE.is("it is on the shelf", x.of(0, 2), -6);
    }

    private static void longPins() {
        PlugPins x = plugged(50, 7);
        x.pass(1);
        DUE.is("power at the depth 7", x.of(0, 5), 0);
        x.plug(0, 0, 1);
        x.pass(1);
        DUE.is("power at the depth 8", x.of(0, 5), 20);
        DUE.is("draw", x.count(9), 10);
        x.pass(2);
        DUE.is("power at the depth 10", x.of(0, 5), 60);
        x.pull(0, 2);
        x.pass(1);
        DUE.is("power at the depth 8, outward", x.of(0, 5), 80);
        x.pull(0, 1);
        x.pass(1);
        DUE.is("power at the depth 7, outward", x.of(0, 5), 0);
        DUE.is("draw", x.count(9), 0);
    }

    private static void softPower() {
        PlugPins x = plugged(60, 24);
        x.set(1, 33);
        int[] due = {33, 66, 99, 100, 100};
        for (int tick = 0; tick < due.length; tick++) {
            x.pass(1);
            DUE.is("power after " + (tick + 1), x.of(0, 5), due[tick]);
        }
        PlugPins y = plugged(60, 24);
        y.set(1, 1);
        y.pass(99);
        DUE.is("99 ticks of 1", y.of(0, 5), 99);
        DUE.is("not greeted yet", y.of(0, 8), 0);
        y.pass(1);
        DUE.is("100 ticks of 1", y.of(0, 5), 100);
        DUE.is("greeted in the same tick", y.of(0, 8), 1);
    }

    private static void supplyBySlots() {
        PlugPins x = new PlugPins();
        x.board(1, 60);
        x.board(2, 60);
        x.plug(0, 4, 24);
        x.plug(1, 0, 24);
        x.set(4, 12);
        x.pass(1);
        DUE.is("the lower slot gets its power", x.of(1, 5), 20);
        DUE.is("the higher one gets none", x.of(0, 5), 0);
        DUE.is("the bound itself can be drawn", x.count(9), 12);
        x.set(4, 35);
        x.pass(1);
        DUE.is("24 are drawn by the lower slot", x.of(1, 5), 40);
        DUE.is("36 would be too much", x.of(0, 5), 0);
        x.set(4, 36);
        x.pass(1);
        DUE.is("36 by the lower slot", x.of(1, 5), 60);
        DUE.is("none for the higher one", x.of(0, 5), 0);
        x.set(4, 47);
        x.pass(1);
        DUE.is("48 would be too much", x.of(1, 5), 60);
        DUE.is("yet not 36 + 12 - 1", x.of(0, 5), 0);
        x.set(4, 10);
        x.pass(1);
        DUE.is("a lower bound takes no power", x.of(1, 5), 60);
        DUE.is("and gives none", x.of(0, 5), 0);
    }

    private static void supplyWithRounding() {
        PlugPins x = new PlugPins();
        for (int i = 0; i < 5; i++) {
            x.board(i, 9);
            x.plug(i, i, 24);
        }
        x.set(1, 11);
        x.set(4, 10);
        x.pass(1);
        DUE.is("9 * 11 / 100 is 0", x.count(9), 0);
        DUE.is("each one has its power", x.of(4, 5), 11);
        x.pass(1);
        DUE.is("9 * 22 / 100 is 1, each for itself", x.count(9), 5);
        x.pass(1);
        DUE.is("9 * 33 / 100 is 2", x.count(9), 10);
        DUE.is("all have 33", x.of(4, 5), 33);
        x.pass(1);
        DUE.is("9 * 44 / 100 is 3: too much", x.of(0, 5), 33);
    }

    /** By slots: what a board in a higher slot draws is drawn until its slot's turn comes. */
    private static void supplyOfOneThatParts() {
        PlugPins x = new PlugPins();
        x.board(1, 60);
        x.board(2, 60);
        x.plug(1, 3, 24);
        x.set(1, 50);
        x.set(4, 60);
        x.pass(2);
        x.plug(0, 1, 24);
        x.pull(1, 17);
        x.pass(1);
        DUE.is("the higher slot's board has none any more", x.of(1, 5), 0);
        DUE.is("the lower one waited for it", x.of(0, 5), 0);
        x.pass(1);
        DUE.is("and gets it then", x.of(0, 5), 50);
        PlugPins y = new PlugPins();
        y.board(1, 60);
        y.board(2, 60);
        y.plug(1, 0, 24);
        y.set(1, 50);
        y.set(4, 60);
        y.pass(2);
        y.plug(0, 1, 24);
        y.pull(1, 17);
        y.pass(1);
        DUE.is("the lower slot's board has none any more", y.of(1, 5), 0);
        DUE.is("the higher one gets it at once", y.of(0, 5), 50);
    }

    private static void greeting() {
        PlugPins x = plugged(1, 24);
        x.set(3, 3);
        x.pass(4);
        DUE.is("power", x.of(0, 5), 80);
        DUE.is("not greeted with 80", x.of(0, 8), 0);
        int[] greeted = {1, 2, 0, 0};
        int[] known = {0, 0, 1, 1};
        for (int tick = 0; tick < greeted.length; tick++) {
            x.pass(1);
            DUE.is("greeting", x.of(0, 8), greeted[tick]);
            DUE.is("known", x.of(0, 6), known[tick]);
        }
    }

    private static void greetingBeginsAnew() {
        PlugPins x = plugged(1, 19);
        x.set(3, 4);
        x.pass(1);
        x.pull(0, 1);
        x.plug(0, 0, 1);
        x.pass(1);
        x.pull(0, 1);
        x.pass(1);
        x.plug(0, 0, 1);
        x.pass(3);
        DUE.is("depth", x.of(0, 3), 22);
        DUE.is("power", x.of(0, 5), 100);
        DUE.is("greeted", x.of(0, 8), 2);
        x.pull(0, 2);
        x.pass(1);
        DUE.is("short pins touch at 20", x.of(0, 3), 20);
        DUE.is("it is greeted on", x.of(0, 8), 3);
        x.pull(0, 1);
        x.pass(1);
        DUE.is("they do not at 19", x.of(0, 3), 19);
        DUE.is("it begins anew", x.of(0, 8), 0);
        x.plug(0, 0, 1);
        x.pass(3);
        DUE.is("with the first tick", x.of(0, 8), 3);
        DUE.is("it was never known", x.count(12), 0);
        x.pass(1);
        DUE.is("known", x.of(0, 6), 1);
    }

    private static void greetingWithOtherSettings() {
        PlugPins x = plugged(1, 24);
        x.set(3, 9);
        x.pass(9);
        DUE.is("greeted", x.of(0, 8), 5);
        x.set(3, 1);
        DUE.is("known only in a tick", x.of(0, 6), 0);
        x.pass(1);
        DUE.is("with GREET ticks or more", x.of(0, 6), 1);
        x.set(3, 9);
        x.pass(1);
        DUE.is("it stays known", x.of(0, 6), 1);
        PlugPins y = plugged(1, 24);
        y.set(3, 1);
        y.set(1, 50);
        y.pass(1);
        DUE.is("50 hundredths", y.of(0, 6), 0);
        y.pass(1);
        DUE.is("known with its first full power", y.of(0, 6), 1);
    }

    private static void shortPinsPart() {
        PlugPins x = Due.withKnown(2);
        x.pull(0, 4);
        x.pass(1);
        DUE.is("known at 20", x.of(0, 6), 1);
        DUE.is("known boards", x.count(3), 3);
        x.pull(0, 1);
        x.pass(1);
        DUE.is("not known at 19", x.of(0, 6), 0);
        DUE.is("known boards", x.count(3), 2);
        DUE.is("too soon", x.of(0, 10), 1);
        DUE.is("too soon, all", x.count(12), 1);
        DUE.is("it keeps its power", x.of(0, 5), 100);
        x.pass(1);
        DUE.is("that is counted once", x.count(12), 1);
        x.plug(0, 0, 3);
        x.pass(1);
        DUE.is("greeted again", x.of(0, 8), 1);
        x.pass(1);
        DUE.is("known again", x.of(0, 6), 1);
        x.pull(0, 24);
        x.pull(1, 24);
        x.pass(1);
        DUE.is("too soon again", x.of(0, 10), 2);
        DUE.is("the other one", x.of(1, 10), 1);
        DUE.is("all", x.count(12), 3);
        DUE.is("plugs: ticks with one", x.count(10), 2);
    }

    private static void hurtWords() {
        PlugPins x = Due.withKnown(2);
        x.set(0, 0);
        x.board(3, 1);
        x.send(0, 1);
        x.send(1, 0);
        x.pass(2);
        DUE.is("two ticks yet", x.word(0, 4), 2);
        x.plug(2, 2, 14);
        x.pass(1);
        DUE.is("hurt once", x.word(0, 3), 1);
        DUE.is("it begins anew", x.word(0, 4), 3);
        DUE.is("it stays on the bus", x.count(7), 0);
        x.pull(2, 1);
        x.pass(1);
        DUE.is("hurt twice", x.word(0, 3), 2);
        DUE.is("on the bus", x.word(0, 2), 1);
        x.plug(2, 2, 1);
        x.pass(1);
        DUE.is("hurt for the third time", x.word(0, 3), 3);
        DUE.is("lost", x.word(0, 2), 3);
        DUE.is("no ticks any more", x.word(0, 4), 0);
        DUE.is("lost words", x.count(6), 1);
        DUE.is("hurts", x.count(11), 3);
        DUE.is("the next one got on in the same tick", x.count(7), 1);
        DUE.is("it is not hurt", x.word(1, 3), 0);
        DUE.is("it is delivered", x.pass(3), 1);
        DUE.is("delivered by the board 1", x.of(1, 9), 1);
        DUE.is("delivered by the board 0", x.of(0, 9), 0);
    }

    private static void plugOfTwoAtOnce() {
        PlugPins x = Due.withKnown(2);
        x.set(0, 0);
        x.board(3, 1);
        x.board(4, 1);
        x.send(0, 1);
        x.pass(1);
        x.plug(2, 2, 14);
        x.plug(3, 3, 14);
        x.pass(1);
        DUE.is("one tick with a plug more", x.count(10), 2);
        DUE.is("hurt once by both", x.word(0, 3), 1);
        DUE.is("hurts", x.count(11), 1);
    }

    private static void plugWithoutWord() {
        PlugPins x = Due.withKnown(2);
        x.set(0, 0);
        x.board(3, 1);
        x.send(0, 1);
        x.plug(2, 2, 24);
        x.pass(1);
        DUE.is("a word that waits is not hurt", x.word(0, 3), 0);
        DUE.is("it gets on in the tick with the plug", x.count(7), 0);
        DUE.is("nothing hurt", x.count(11), 0);
    }

    private static void lengthOfWords() {
        PlugPins x = Due.withKnown(2);
        x.set(2, 1);
        x.send(0, 1);
        x.send(0, 1);
        x.pass(1);
        DUE.is("one tick", x.word(0, 4), 1);
        x.set(2, 9);
        DUE.is("it keeps its ticks", x.word(0, 4), 1);
        DUE.is("delivered", x.pass(1), 1);
        DUE.is("the next one has nine", x.word(1, 4), 9);
        x.pass(8);
        DUE.is("one tick yet", x.word(1, 4), 1);
        DUE.is("delivered after nine", x.pass(1), 1);
        DUE.is("how it is", x.word(1, 2), 2);
        DUE.is("no ticks any more", x.word(1, 4), 0);
    }

    private static void holdInward() {
        PlugPins x = Due.withKnown(2);
        x.board(3, 1);
        x.plug(2, 2, 7);
        x.pass(1);
        DUE.is("not held at 7", x.count(8), 0);
        x.plug(2, 2, 1);
        x.pass(1);
        DUE.is("held at 8", x.count(8), 1);
        x.send(0, 1);
        x.pass(5);
        DUE.is("depth", x.of(2, 3), 13);
        DUE.is("held at 13", x.count(8), 1);
        DUE.is("no word gets on", x.count(7), -6);
        x.pass(1);
        DUE.is("not held at 14", x.count(8), 0);
        DUE.is("the word got on", x.count(7), 0);
        DUE.is("not hurt", x.word(0, 3), 0);
    }

    private static void holdOutward() {
        PlugPins x = Due.withKnown(3);
        x.send(0, 1);
        x.send(0, 1);
        x.pass(1);
        x.pull(2, 3);
        DUE.is("held at 24, as it is pulled", x.count(8), 1);
        DUE.is("a word on the bus goes on", x.pass(3), 1);
        DUE.is("depth", x.of(2, 3), 15);
        DUE.is("the other one does not get on", x.count(7), -6);
        x.pull(2, 1);
        x.pass(1);
        DUE.is("held at 14", x.count(8), 1);
        DUE.is("it does not get on", x.count(7), -6);
        x.pass(1);
        DUE.is("not held at 13", x.count(8), 0);
        DUE.is("it got on in the tick of the plug", x.count(7), 1);
        DUE.is("not hurt", x.count(11), 0);
        x.plug(2, 2, 1);
        DUE.is("held as it turns at 13", x.count(8), 1);
    }

    private static void holdByAnyBoard() {
        PlugPins x = Due.withKnown(5);
        for (int board = 0; board < 5; board++) {
            DUE.is("nothing moves", x.count(8), 0);
            x.pull(board, 1);
            DUE.is("held by the board " + board, x.count(8), 1);
            x.undo();
        }
    }

    private static void holdIsOff() {
        PlugPins x = Due.withKnown(2);
        x.set(0, 0);
        x.board(3, 1);
        x.plug(2, 2, 8);
        x.pass(1);
        DUE.is("not held with HOLD 0", x.count(8), 0);
        x.send(0, 1);
        x.pull(2, 1);
        x.plug(2, 2, 1);
        x.pass(1);
        DUE.is("the word gets on", x.count(7), 0);
        x.set(0, 1);
        DUE.is("held with HOLD 1", x.count(8), 1);
    }

    private static void wordsOfOneThatParts() {
        PlugPins x = Due.withKnown(4);
        x.set(2, 9);
        x.send(2, 3);
        x.send(0, 1);
        x.send(1, 2);
        x.send(3, 1);
        x.send(2, 0);
        x.pass(1);
        x.pull(1, 5);
        x.pass(1);
        int[] due = {1, 3, 3, 3, 0};
        for (int word = 0; word < due.length; word++) {
            DUE.is("word(" + word + ", 2)", x.word(word, 2), due[word]);
        }
        DUE.is("lost", x.count(6), 3);
        DUE.is("waiting(0)", x.waiting(0), 4);
        DUE.is("waiting(1)", x.waiting(1), -1);
        DUE.is("the other one goes on", x.word(0, 4), 8);
        x.ask(2);
        x.pull(2, 5);
        x.pass(1);
        DUE.is("on the bus: lost", x.word(0, 2), 3);
        DUE.is("waiting: lost", x.word(4, 2), 3);
        DUE.is("the bus is free", x.count(7), -6);
        DUE.is("no words are open", x.quietIn(), 0);
        DUE.is("only the first was pulled too soon", x.count(12), 1);
        DUE.is("not hurt by that", x.count(11), 0);
    }

    private static void wordLostAheadOfThePlug() {
        PlugPins x = Due.withKnown(3);
        x.send(0, 1);
        x.send(1, 2);
        x.pass(1);
        x.pull(0, 24);
        x.pass(1);
        DUE.is("lost in step 3", x.word(0, 2), 3);
        DUE.is("and not hurt in step 4", x.word(0, 3), 0);
        DUE.is("hurts", x.count(11), 0);
        DUE.is("the next one got on in step 5", x.count(7), 1);
    }
}
