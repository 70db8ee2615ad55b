/** Promises 15 to 19: what if; nothing changes. */
public final class WhatIfTest {
    private static final Due DUE = new Due("WhatIfTest");

    public static void main(String[] args) {
        reasons();
        reasonErrors();
        knownInTicks();
        knownInErrors();
        knownInBound();
        hurtsOfPlug();
        hurtsOfOthers();
        plugErrors();
        safeSpeeds();
        noSafeSpeed();
        quiet();
        quietBound();
        nothingChanges();
        DUE.end();
    }

    private static void reasons() {
        PlugPins x = Due.withKnown(2);
        x.board(1, 1);
        x.board(2, 1);
        DUE.is("both are known", x.why(0, 1), 0);
        DUE.is("the first one is not", x.why(2, 0), 1);
        DUE.is("none is", x.why(2, 3), 1);
        DUE.is("the other one is not", x.why(0, 2), 2);
        x.ask(0);
        DUE.is("the first one asked", x.why(0, 1), 3);
        DUE.is("the other one asked", x.why(1, 0), 3);
        DUE.is("not known, ahead of asked", x.why(0, 2), 2);
        DUE.is("not known, ahead of asked", x.why(2, 0), 1);
        x.ask(1);
        DUE.is("both asked", x.why(0, 1), 3);
    }

    private static void reasonErrors() {
        PlugPins x = Due.withKnown(2);
        DUE.is("why(2, 0)", x.why(2, 0), -1);
        DUE.is("why(0, 2)", x.why(0, 2), -1);
        DUE.is("why(-1, 0)", x.why(-1, 0), -1);
        DUE.is("why(2, 2): no such board first", x.why(2, 2), -1);
        DUE.is("why(1, 1)", x.why(1, 1), -2);
        for (int end : Due.ENDS) {
            DUE.is("why(" + end + ", 0)", x.why(end, 0), -1);
            DUE.is("why(0, " + end + ")", x.why(0, end), -1);
        }
        x.board(1, 1);
        DUE.is("why(2, 2): the same, ahead of not known", x.why(2, 2), -2);
    }

    private static void knownInTicks() {
        PlugPins x = new PlugPins();
        x.board(1, 20);
        x.plug(0, 0, 24);
        for (int due = 6; due >= 0; due--) {
            DUE.is("knownIn(0)", x.knownIn(0), due);
            x.pass(1);
        }
        x.pull(0, 24);
        DUE.is("0, also if it is pulled", x.knownIn(0), 0);
        x.pass(1);
        x.plug(0, 0, 24);
        x.set(3, 1);
        x.pass(3);
        x.pull(0, 2);
        DUE.is("on its way out, yet soon enough", x.knownIn(0), 2);
        x.pull(0, 3);
        DUE.is("too fast", x.knownIn(0), -6);
    }

    private static void knownInErrors() {
        PlugPins x = new PlugPins();
        DUE.is("no such board", x.knownIn(0), -1);
        x.board(1, 1);
        DUE.is("on the shelf", x.knownIn(0), -5);
        DUE.is("no such board", x.knownIn(1), -1);
        DUE.is("no such board", x.knownIn(-1), -1);
        for (int end : Due.ENDS) {
            DUE.is("knownIn(" + end + ")", x.knownIn(end), -1);
        }
        x.plug(0, 0, 1);
        DUE.is("short pins touch in the 20th tick, the power is full then", x.knownIn(0), 21);
    }

    private static void knownInBound() {
        PlugPins x = new PlugPins();
        x.board(1, 60);
        x.set(4, 10);
        x.plug(0, 0, 24);
        DUE.is("never for want of supply", x.knownIn(0), -6);
        x.set(4, 60);
        x.set(1, 1);
        x.set(3, 9);
        DUE.is("100 ticks of power and 8 of greeting", x.knownIn(0), 108);
        x.set(4, 59);
        DUE.is("the last hundredth is too much", x.knownIn(0), -6);
        PlugPins y = new PlugPins();
        y.board(1, 60);
        y.set(1, 1);
        y.set(3, 9);
        y.plug(0, 0, 1);
        DUE.is("7 ticks to the depth 8, then 108", y.knownIn(0), 115);
    }

    private static void hurtsOfPlug() {
        PlugPins x = Due.withKnown(2);
        x.board(3, 1);
        DUE.is("without words", x.wouldHurt(2, 2, 24), 0);
        x.send(0, 1);
        DUE.is("a word that waits gets on in that tick", x.wouldHurt(2, 2, 24), 0);
        DUE.is("it is on the bus as the pins touch", x.wouldHurt(2, 2, 7), 1);
        x.pass(1);
        DUE.is("at 24", x.wouldHurt(2, 2, 24), 1);
        DUE.is("at 14", x.wouldHurt(2, 2, 14), 1);
        DUE.is("at 7, in two ticks", x.wouldHurt(2, 2, 7), 1);
        DUE.is("at 5, in three ticks", x.wouldHurt(2, 2, 5), 1);
        DUE.is("at 4, in four ticks", x.wouldHurt(2, 2, 4), 0);
        x.set(2, 9);
        x.pass(3);
        x.send(0, 1);
        x.pass(1);
        DUE.is("a long word, at 2", x.wouldHurt(2, 2, 2), 1);
        DUE.is("at 1", x.wouldHurt(2, 2, 1), 0);
        x.plug(2, 2, 1);
        x.pass(3);
        DUE.is("in this slot, from the depth 3", x.wouldHurt(2, 2, 11), 1);
        DUE.is("with 6 ticks yet, at 2", x.wouldHurt(2, 2, 2), 1);
        DUE.is("with 6 ticks yet, at 1", x.wouldHurt(2, 2, 1), 0);
    }

    private static void hurtsOfOthers() {
        PlugPins x = Due.withKnown(2);
        x.set(0, 0);
        x.set(2, 9);
        x.board(3, 1);
        x.board(4, 1);
        x.board(5, 1);
        x.send(0, 1);
        x.send(1, 0);
        x.pass(1);
        x.plug(2, 2, 14);
        DUE.is("by both in the same tick", x.wouldHurt(3, 3, 14), 1);
        DUE.is("by the other one, then by this one", x.wouldHurt(3, 3, 7), 2);
        x.plug(4, 4, 5);
        DUE.is("by three, with the word lost", x.wouldHurt(3, 3, 7), 3);
        DUE.is("until it stands, in the first tick", x.wouldHurt(3, 3, 24), 1);
        DUE.is("until it stands, in the second tick", x.wouldHurt(3, 3, 14), 1);
        x.pass(1);
        x.pull(2, 1);
        DUE.is("by one that is pulled", x.wouldHurt(3, 3, 24), 1);
        x.undo();
        x.undo();
        x.undo();
        x.pass(1);
        DUE.is("after it stands, nothing counts", x.wouldHurt(3, 3, 24), 1);
        DUE.is("hurt so far does not count", x.count(11), 1);
    }

    private static void plugErrors() {
        PlugPins x = Due.withKnown(2);
        x.board(5, 5);
        DUE.is("no such board", x.wouldHurt(3, 4, 0), -1);
        DUE.is("no such board", x.wouldHurt(-1, 4, 1), -1);
        DUE.is("no such slot", x.wouldHurt(2, 5, 0), -1);
        DUE.is("no such slot", x.wouldHurt(2, -1, 1), -1);
        DUE.is("speed 0", x.wouldHurt(2, 4, 0), -2);
        DUE.is("speed 25, ahead of the other board", x.wouldHurt(2, 0, 25), -2);
        DUE.is("another board", x.wouldHurt(2, 0, 1), -5);
        DUE.is("another slot", x.wouldHurt(0, 4, 1), -5);
        DUE.is("the depth 24", x.wouldHurt(0, 0, 1), -5);
        DUE.is("no such board", x.safeSpeed(3, 4), -1);
        DUE.is("no such board", x.safeSpeed(-1, 4), -1);
        DUE.is("no such slot", x.safeSpeed(2, 5), -1);
        DUE.is("no such slot", x.safeSpeed(2, -1), -1);
        DUE.is("another board", x.safeSpeed(2, 0), -5);
        DUE.is("another slot", x.safeSpeed(0, 4), -5);
        DUE.is("the depth 24", x.safeSpeed(0, 0), -5);
        for (int end : Due.ENDS) {
            DUE.is("wouldHurt(" + end + ", 4, 1)", x.wouldHurt(end, 4, 1), -1);
            DUE.is("wouldHurt(2, " + end + ", 1)", x.wouldHurt(2, end, 1), -1);
            DUE.is("wouldHurt(2, 4, " + end + ")", x.wouldHurt(2, 4, end), -2);
            DUE.is("safeSpeed(" + end + ", 4)", x.safeSpeed(end, 4), -1);
            DUE.is("safeSpeed(2, " + end + ")", x.safeSpeed(2, end), -1);
        }
    }

    private static void safeSpeeds() {
        PlugPins x = Due.withKnown(2);
        x.board(3, 1);
        DUE.is("without words", x.safeSpeed(2, 2), 24);
        x.send(0, 1);
        DUE.is("a word that waits", x.safeSpeed(2, 2), 24);
        x.pass(1);
        DUE.is("three ticks yet: the pins touch in the fourth", x.safeSpeed(2, 2), 4);
        x.pass(1);
        DUE.is("two ticks yet: in the third", x.safeSpeed(2, 2), 6);
        x.pass(1);
        DUE.is("one tick yet: in the second", x.safeSpeed(2, 2), 13);
        x.pass(1);
        DUE.is("delivered", x.safeSpeed(2, 2), 24);
        x.set(2, 9);
        x.send(0, 1);
        x.pass(1);
        DUE.is("nine ticks", x.safeSpeed(2, 2), 1);
        x.plug(2, 2, 13);
        x.pass(1);
        DUE.is("in this slot, at 13: any speed hurts", x.safeSpeed(2, 2), -6);
        x.plug(2, 2, 1);
        x.pass(1);
        DUE.is("at 14: none does any more", x.safeSpeed(2, 2), 24);
    }

    private static void noSafeSpeed() {
        PlugPins x = Due.withKnown(2);
        x.set(0, 0);
        x.set(2, 9);
        x.board(3, 1);
        Due.run(x, "w01;w10;w01;w10;w01");
        x.pass(1);
        DUE.is("a bus that is never held or free", x.safeSpeed(2, 2), -6);
        x.set(0, 1);
        DUE.is("held: not at once, but at 1", x.safeSpeed(2, 2), 1);
    }

    private static void quiet() {
        PlugPins x = Due.withKnown(2);
        DUE.is("no words", x.quietIn(), 0);
        x.send(0, 1);
        DUE.is("one tick to get on, three on the bus", x.quietIn(), 4);
        x.send(0, 1);
        DUE.is("three more", x.quietIn(), 7);
        x.pass(1);
        DUE.is("one tick later", x.quietIn(), 6);
        x.set(2, 9);
        DUE.is("the second one with nine", x.quietIn(), 12);
        x.pull(1, 1);
        DUE.is("lost at the depth 19", x.quietIn(), 5);
        x.pull(1, 24);
        DUE.is("lost at once", x.quietIn(), 1);
        x.pass(1);
        DUE.is("lost", x.quietIn(), 0);
    }

    private static void quietBound() {
        PlugPins x = Due.withKnown(2);
        x.set(2, 9);
        Due.run(x, "w01;w01;w01;w01;w01;w01;w01;w01;w01;w01");
        DUE.is("ten words of nine ticks", x.quietIn(), 91);
        DUE.is("they are delivered then", x.pass(91), 10);
    }

    private static void nothingChanges() {
        PlugPins x = Due.withKnown(2);
        x.board(3, 1);
        x.send(0, 1);
        x.send(1, 0);
        x.pass(2);
        x.plug(2, 3, 5);
        Due.write(x, "t5");
        String before = Due.seenWhole(x);
        x.why(0, 1);
        x.knownIn(2);
        x.wouldHurt(2, 3, 24);
        x.wouldHurt(2, 3, 1);
        x.safeSpeed(2, 3);
        x.quietIn();
        x.fault();
        x.known(3);
        DUE.same("after what if", Due.seenWhole(x), before);
        x.pass(1);
        DUE.is("the speed is that of plug()", x.of(2, 3), 5);
    }
}
