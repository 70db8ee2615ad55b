/** Promises 1 to 8: a new object, and the calls that change it. */
public final class ChangesTest {
    private static final Due DUE = new Due("ChangesTest");

    public static void main(String[] args) {
        newObject();
        settings();
        boards();
        plugging();
        pluggingInThisSlot();
        plugErrors();
        pulling();
        pullErrors();
        asking();
        askErrors();
        sending();
        sendErrors();
        tenWords();
        twoHundredWords();
        passing();
        boundOfTime();
        errorsChangeNothing();
        DUE.end();
    }

    private static void newObject() {
        PlugPins x = new PlugPins();
        int[] counts = {0, 0, 0, 0, 0, 0, 0, -6, 0, 0, 0, 0, 0, 1, 20, 3, 2, 120, 0, 0};
        for (int what = 0; what < counts.length; what++) {
            DUE.is("new: count(" + what + ")", x.count(what), counts[what]);
        }
        for (int slot = 0; slot < 5; slot++) {
            DUE.is("new: slot(" + slot + ")", x.slot(slot), -6);
        }
        DUE.is("new: of(0, 0)", x.of(0, 0), -1);
        DUE.is("new: word(0, 0)", x.word(0, 0), -1);
        DUE.is("new: waiting(0)", x.waiting(0), -1);
        DUE.is("new: known(0)", x.known(0), -6);
        DUE.is("new: quietIn()", x.quietIn(), 0);
        DUE.is("new: fault()", x.fault(), 0);
        DUE.is("new: undo()", x.undo(), -5);
        DUE.is("new: restore(0)", x.restore(0), -5);
        DUE.is("new: restore(1)", x.restore(1), -5);
        PlugPins other = new PlugPins();
        x.set(1, 7);
        x.board(1, 1);
        DUE.is("another object's setting", other.count(14), 20);
        DUE.is("another object's boards", other.count(1), 0);
        DUE.is("an object made later", new PlugPins().count(14), 20);
    }

    private static void settings() {
        int[] lowest = {0, 1, 1, 1, 10};
        int[] highest = {1, 50, 9, 9, 300};
        int[] first = {1, 20, 3, 2, 120};
        for (int setting = 0; setting < 5; setting++) {
            PlugPins x = new PlugPins();
            DUE.is("set below the range", x.set(setting, lowest[setting] - 1), -2);
            DUE.is("set above the range", x.set(setting, highest[setting] + 1), -2);
            for (int end : Due.ENDS) {
                DUE.is("set(" + setting + ", " + end + ")", x.set(setting, end), -2);
            }
            DUE.is("after errors", x.count(13 + setting), first[setting]);
            DUE.is("errors record nothing", x.count(19), 0);
            DUE.is("set to the lowest", x.set(setting, lowest[setting]), first[setting]);
            DUE.is("count of the lowest", x.count(13 + setting), lowest[setting]);
            DUE.is("set to the highest", x.set(setting, highest[setting]), lowest[setting]);
            DUE.is("count of the highest", x.count(13 + setting), highest[setting]);
            DUE.is("set to the same", x.set(setting, highest[setting]), highest[setting]);
            DUE.is("changes", x.count(19), 3);
            for (int other = 0; other < 5; other++) {
                if (other != setting) {
                    DUE.is("another setting", x.count(13 + other), first[other]);
                }
            }
        }
        PlugPins x = new PlugPins();
        DUE.is("set(-1, 1)", x.set(-1, 1), -2);
        DUE.is("set(5, 1)", x.set(5, 1), -2);
        for (int end : Due.ENDS) {
            DUE.is("set(" + end + ", 1)", x.set(end, 1), -2);
        }
    }

    private static void boards() {
        PlugPins x = new PlugPins();
        DUE.is("board(-1, 1)", x.board(-1, 1), -2);
        DUE.is("board(100, 1)", x.board(100, 1), -2);
        DUE.is("board(0, 0)", x.board(0, 0), -2);
        DUE.is("board(0, 61)", x.board(0, 61), -2);
        for (int end : Due.ENDS) {
            DUE.is("board(" + end + ", 1)", x.board(end, 1), -2);
            DUE.is("board(1, " + end + ")", x.board(1, end), -2);
        }
        DUE.is("boards after errors", x.count(1), 0);
        DUE.is("board(0, 1)", x.board(0, 1), 0);
        DUE.is("board(99, 60)", x.board(99, 60), 1);
        int[] due = {99, 60, -6, 0, 100, 0, 0, 0, 0, 0, 0};
        for (int what = 0; what < due.length; what++) {
            DUE.is("of(1, " + what + ")", x.of(1, what), due[what]);
        }
        DUE.is("of(0, 0)", x.of(0, 0), 0);
        DUE.is("of(0, 1)", x.of(0, 1), 1);
        for (int number = 2; number < 8; number++) {
            DUE.is("board " + number, x.board(99, 5), number);
        }
        DUE.is("the ninth board", x.board(0, 1), -4);
        DUE.is("the ninth board, of a bad word", x.board(100, 1), -2);
        DUE.is("the ninth board, of a bad current", x.board(0, 0), -2);
        DUE.is("of(7, 1)", x.of(7, 1), 5);
        DUE.is("of(8, 1)", x.of(8, 1), -1);
    }

    private static void plugging() {
        PlugPins x = new PlugPins();
        x.board(1, 10);
        x.board(2, 10);
        DUE.is("plug(0, 4, 1)", x.plug(0, 4, 1), 0);
        DUE.is("its slot", x.of(0, 2), 4);
        DUE.is("its depth", x.of(0, 3), 0);
        DUE.is("its speed", x.of(0, 4), 101);
        DUE.is("slot(4)", x.slot(4), 0);
        DUE.is("plug(1, 0, 24)", x.plug(1, 0, 24), 0);
        DUE.is("its speed", x.of(1, 4), 124);
        x.pass(1);
        DUE.is("depth at the speed 1", x.of(0, 3), 1);
        DUE.is("depth at the speed 24", x.of(1, 3), 24);
        DUE.is("at 24 it stands", x.of(1, 4), 100);
        DUE.is("plug(0, 4, 5): another speed", x.plug(0, 4, 5), 1);
        x.pass(4);
        DUE.is("depth 1 + 4 * 5", x.of(0, 3), 21);
        x.pass(1);
        DUE.is("no deeper than 24", x.of(0, 3), 24);
        DUE.is("changes", x.count(19), 6);
    }

    private static void pluggingInThisSlot() {
        PlugPins x = Due.withKnown(2);
        x.ask(0);
        x.pull(0, 1);
        x.pass(2);
        DUE.is("on its way out", x.of(0, 3), 22);
        DUE.is("it has asked", x.of(0, 7), 1);
        DUE.is("plug(0, 0, 1)", x.plug(0, 0, 1), 22);
        DUE.is("it does not ask any more", x.of(0, 7), 0);
        DUE.is("it moves inward", x.of(0, 4), 101);
        DUE.is("it is known yet", x.of(0, 6), 1);
        DUE.is("words can be sent again", x.why(0, 1), 0);
        x.pass(2);
        DUE.is("it is in again", x.of(0, 3), 24);
        DUE.is("nothing was pulled too soon", x.count(12), 0);
        x.pull(0, 3);
        DUE.is("not from the depth 24, also if it is pulled", x.plug(0, 0, 1), -5);
    }

    private static void plugErrors() {
        PlugPins x = Due.withKnown(2);
        x.board(5, 5);
        DUE.is("no such board", x.plug(3, 0, 1), -1);
        DUE.is("no such board", x.plug(-1, 0, 1), -1);
        DUE.is("no such slot", x.plug(2, 5, 1), -1);
        DUE.is("no such slot", x.plug(2, -1, 1), -1);
        DUE.is("no such slot, ahead of the speed", x.plug(2, 5, 0), -1);
        DUE.is("no such board, ahead of the speed", x.plug(3, 4, 25), -1);
        DUE.is("speed 0", x.plug(2, 4, 0), -2);
        DUE.is("speed 25", x.plug(2, 4, 25), -2);
        DUE.is("speed -1", x.plug(2, 4, -1), -2);
        DUE.is("speed, ahead of the slot's other board", x.plug(2, 0, 0), -2);
        DUE.is("the slot has another board", x.plug(2, 0, 1), -5);
        DUE.is("it is in another slot", x.plug(0, 4, 1), -5);
        DUE.is("it is in another slot, which has a board", x.plug(0, 1, 1), -5);
        DUE.is("it has the depth 24", x.plug(0, 0, 1), -5);
        for (int end : Due.ENDS) {
            DUE.is("plug(" + end + ", 4, 1)", x.plug(end, 4, 1), -1);
            DUE.is("plug(2, " + end + ", 1)", x.plug(2, end, 1), -1);
            DUE.is("plug(2, 4, " + end + ")", x.plug(2, 4, end), -2);
        }
        DUE.is("it stays on the shelf", x.of(2, 2), -6);
        DUE.is("its asking is not over by an error", askedAfterError(), 1);
        DUE.is("a slot that became free", slotFreed(), 0);
    }

    private static int askedAfterError() {
        PlugPins x = Due.withKnown(2);
        x.ask(0);
        x.plug(0, 0, 1);
        return x.of(0, 7);
    }

    private static int slotFreed() {
        PlugPins x = Due.withKnown(2);
        x.board(5, 5);
        x.pull(0, 24);
        DUE.is("the slot is not free ahead of the tick", x.plug(2, 0, 1), -5);
        x.pass(1);
        return x.plug(2, 0, 1);
    }

    private static void pulling() {
        PlugPins x = Due.withKnown(1);
        DUE.is("pull(0, 7)", x.pull(0, 7), 24);
        DUE.is("its speed", x.of(0, 4), 93);
        x.pass(1);
        DUE.is("its depth", x.of(0, 3), 17);
        DUE.is("pull(0, 1): another speed", x.pull(0, 1), 17);
        x.pass(1);
        DUE.is("its depth", x.of(0, 3), 16);
        DUE.is("pull(0, 24)", x.pull(0, 24), 16);
        DUE.is("its speed", x.of(0, 4), 76);
        x.pass(1);
        DUE.is("it is on the shelf", x.of(0, 2), -6);
        DUE.is("depth on the shelf", x.of(0, 3), 0);
        DUE.is("speed on the shelf", x.of(0, 4), 100);
        DUE.is("power on the shelf", x.of(0, 5), 0);
        DUE.is("the slot is free", x.slot(0), -6);
        x.plug(0, 3, 2);
        DUE.is("pulled at the depth 0", x.pull(0, 1), 0);
        DUE.is("it is in the slot yet", x.slot(3), 0);
        x.pass(1);
        DUE.is("it left the slot", x.slot(3), -6);
        DUE.is("no plug by that", x.count(10), 2);
    }

    private static void pullErrors() {
        PlugPins x = Due.withKnown(1);
        x.board(5, 5);
        DUE.is("no such board", x.pull(2, 1), -1);
        DUE.is("no such board", x.pull(-1, 1), -1);
        DUE.is("no such board, ahead of the speed", x.pull(2, 0), -1);
        DUE.is("speed 0", x.pull(0, 0), -2);
        DUE.is("speed 25", x.pull(0, 25), -2);
        DUE.is("speed, ahead of the shelf", x.pull(1, 0), -2);
        DUE.is("on the shelf", x.pull(1, 1), -5);
        for (int end : Due.ENDS) {
            DUE.is("pull(" + end + ", 1)", x.pull(end, 1), -1);
            DUE.is("pull(0, " + end + ")", x.pull(0, end), -2);
        }
        DUE.is("it stands", x.of(0, 4), 100);
    }

    private static void asking() {
        PlugPins x = Due.withKnown(3);
        x.send(0, 1);
        x.send(1, 2);
        x.send(2, 0);
        x.send(0, 1);
        x.pass(1);
        DUE.is("the first word is on the bus", x.count(7), 0);
        DUE.is("ask(1): one on the bus, two that wait", x.ask(1), 3);
        DUE.is("it has asked", x.of(1, 7), 1);
        DUE.is("it is known", x.of(1, 6), 1);
        DUE.is("no word by it", x.send(1, 0), -5);
        DUE.is("no word to it", x.send(0, 1), -5);
        DUE.is("a word of others", x.send(0, 2), 4);
        DUE.is("those that were sent go on", x.pass(15), 5);
        DUE.is("none is lost", x.count(6), 0);
        DUE.is("ask(0) with no words", x.ask(0), 0);
        x.pull(1, 24);
        x.pass(1);
        DUE.is("it asked: not too soon", x.count(12), 0);
        DUE.is("its asking is over", x.of(1, 7), 0);
    }

    private static void askErrors() {
        PlugPins x = Due.withKnown(1);
        x.board(5, 5);
        DUE.is("no such board", x.ask(2), -1);
        DUE.is("no such board", x.ask(-1), -1);
        DUE.is("it is not known", x.ask(1), -5);
        x.plug(1, 1, 24);
        x.pass(5);
        DUE.is("it is greeted yet", x.ask(1), -5);
        DUE.is("ask(0)", x.ask(0), 0);
        DUE.is("it has asked", x.ask(0), -5);
        for (int end : Due.ENDS) {
            DUE.is("ask(" + end + ")", x.ask(end), -1);
        }
    }

    private static void sending() {
        PlugPins x = Due.withKnown(3);
        DUE.is("send(0, 1)", x.send(0, 1), 0);
        DUE.is("send(2, 1)", x.send(2, 1), 1);
        DUE.is("both wait", x.waiting(1), 1);
        DUE.is("none is on the bus ahead of a tick", x.count(7), -6);
        int[] due = {2, 1, 0, 0, 0};
        for (int what = 0; what < 5; what++) {
            DUE.is("word(1, " + what + ")", x.word(1, what), due[what]);
        }
        DUE.is("sent", x.count(4), 2);
        x.pass(1);
        DUE.is("the first one is on the bus", x.count(7), 0);
        DUE.is("the other one waits", x.waiting(0), 1);
        DUE.is("its ticks", x.word(0, 4), 3);
        DUE.is("delivered in two ticks", x.pass(2), 0);
        DUE.is("delivered in the third", x.pass(1), 1);
        DUE.is("the other one got on at once", x.count(7), 1);
        DUE.is("its ticks", x.word(1, 4), 3);
    }

    private static void sendErrors() {
        PlugPins x = Due.withKnown(2);
        x.board(5, 5);
        DUE.is("no such board", x.send(3, 0), -1);
        DUE.is("no such board", x.send(0, 3), -1);
        DUE.is("no such board", x.send(-1, 0), -1);
        DUE.is("no such board, ahead of the same", x.send(3, 3), -1);
        DUE.is("both are the same", x.send(0, 0), -2);
        DUE.is("both are the same, ahead of not known", x.send(2, 2), -2);
        DUE.is("the first is not known", x.send(2, 0), -5);
        DUE.is("the other is not known", x.send(0, 2), -5);
        for (int end : Due.ENDS) {
            DUE.is("send(" + end + ", 0)", x.send(end, 0), -1);
            DUE.is("send(0, " + end + ")", x.send(0, end), -1);
        }
        x.ask(1);
        DUE.is("one of both has asked", x.send(0, 1), -5);
        DUE.is("one of both has asked", x.send(1, 0), -5);
        DUE.is("nothing is sent", x.count(4), 0);
    }

    private static void tenWords() {
        PlugPins x = Due.withKnown(2);
        for (int word = 0; word < 10; word++) {
            DUE.is("word " + word, x.send(word & 1, 1 - (word & 1)), word);
        }
        DUE.is("the eleventh that waits", x.send(0, 1), -4);
        DUE.is("both the same, ahead of too many", x.send(0, 0), -2);
        x.pass(1);
        DUE.is("nine wait, one is on the bus", x.send(0, 1), -4);
        x.ask(1);
        DUE.is("not possible, ahead of too many", x.send(0, 1), -5);
        x.undo();
        x.pass(3);
        DUE.is("as one is delivered", x.send(0, 1), 10);
        DUE.is("and then no more", x.send(0, 1), -4);
        DUE.is("waiting(8)", x.waiting(8), 10);
        DUE.is("waiting(9)", x.waiting(9), -1);
    }

    private static void twoHundredWords() {
        PlugPins x = Due.withKnown(2);
        x.set(2, 1);
        for (int round = 0; round < 20; round++) {
            DUE.is("ten words", Due.run(x, "w01;w10;w01;w10;w01;w10;w01;w10;w01;w10"), 10);
            x.pass(11);
        }
        DUE.is("words", x.count(4), 200);
        DUE.is("delivered", x.count(5), 200);
        DUE.is("the 201st word", x.send(0, 1), -4);
        DUE.is("of no other order", x.send(0, 0), -2);
        DUE.is("word(199, 0)", x.word(199, 0), 1);
        DUE.is("word(199, 2)", x.word(199, 2), 2);
        DUE.is("word(200, 0)", x.word(200, 0), -1);
        DUE.is("those of the board 0", x.of(0, 9), 100);
        x.undo();
        x.undo();
        DUE.is("before them", x.count(4), 190);
        DUE.is("the 191st word", x.send(0, 1), 190);
        DUE.is("it waits, and is not what was undone", x.word(190, 2), 0);
    }

    private static void passing() {
        PlugPins x = new PlugPins();
        DUE.is("pass(1)", x.pass(1), 0);
        DUE.is("the time", x.count(0), 1);
        DUE.is("pass(99)", x.pass(99), 0);
        DUE.is("the time", x.count(0), 100);
        DUE.is("pass(0)", x.pass(0), -2);
        DUE.is("pass(100)", x.pass(100), -2);
        DUE.is("pass(-1)", x.pass(-1), -2);
        for (int end : Due.ENDS) {
            DUE.is("pass(" + end + ")", x.pass(end), -2);
        }
        DUE.is("the time after errors", x.count(0), 100);
        PlugPins y = Due.withKnown(2);
        y.send(0, 1);
        y.send(0, 1);
        y.send(1, 0);
        DUE.is("two are delivered", y.pass(7), 2);
        DUE.is("one is delivered", y.pass(99), 1);
        DUE.is("delivered", y.count(5), 3);
    }

    private static void boundOfTime() {
        PlugPins x = Due.withKnown(2);
        for (int i = 0; i < 100; i++) {
            x.pass(99);
        }
        DUE.is("the time", x.count(0), 9908);
        DUE.is("to 10000", x.pass(92), -5);
        DUE.is("pass(100) at the end", x.pass(100), -2);
        DUE.is("to 9998", x.pass(90), 0);
        DUE.is("two more", x.pass(2), -5);
        DUE.is("the time", x.count(0), 9998);
        DUE.is("to 9999", x.pass(1), 0);
        DUE.is("the time", x.count(0), 9999);
        DUE.is("no more", x.pass(1), -5);
        DUE.is("pass(0)", x.pass(0), -2);
        x.send(0, 1);
        DUE.is("what would be does not end there", x.quietIn(), 4);
        x.board(3, 3);
        DUE.is("nor here", x.wouldHurt(2, 2, 24), 0);
        x.plug(2, 2, 24);
        DUE.is("nor here", x.knownIn(2), 6);
    }

    private static void errorsChangeNothing() {
        PlugPins x = Due.withKnown(2);
        x.board(9, 9);
        x.send(0, 1);
        x.pass(2);
        x.ask(1);
        Due.write(x, "b1.1;b");
        String before = Due.seenWhole(x);
        for (int end : Due.ENDS) {
            x.set(end, 1);
            x.set(0, end);
            x.board(end, 1);
            x.plug(end, 0, 1);
            x.plug(0, end, 1);
            x.plug(2, 2, end);
            x.pull(end, 1);
            x.pull(0, end);
            x.ask(end);
            x.send(end, 0);
            x.pass(end);
            x.save(end);
            x.restore(end);
        }
        x.plug(2, 0, 1);
        x.pull(2, 1);
        x.ask(1);
        x.ask(2);
        x.send(0, 0);
        x.send(0, 1);
        x.send(0, 2);
        x.restore(0);
        x.carryOut();
        x.put(0L);
        DUE.same("after errors", Due.seenWhole(x), before);
    }
}
