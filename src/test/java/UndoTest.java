/** Promises 24 to 26: undo, save and restore. */
public final class UndoTest {
    private static final Due DUE = new Due("UndoTest");

    public static void main(String[] args) {
        eachChange();
        sixStates();
        whatStays();
        afterUndo();
        afterUndoneText();
        savedWithOtherBoards();
        noChangeRecords();
        saving();
        savedStays();
        restoring();
        slotErrors();
        DUE.end();
    }

    private static PlugPins busy() {
        PlugPins x = Due.withKnown(3);
        x.board(40, 50);
        x.send(0, 1);
        x.send(1, 2);
        x.send(2, 0);
        x.pass(2);
        x.plug(3, 3, 5);
        x.pass(2);
        return x;
    }

    private static int change(PlugPins x, int which) {
        switch (which) {
            case 0: return x.set(2, 9);
            case 1: return x.board(1, 1);
            case 2: return x.plug(3, 3, 2);
            case 3: return x.pull(0, 24);
            case 4: return x.ask(1);
            case 5: return x.send(0, 2);
            case 6: return x.pass(50);
            case 7: return Due.run(x, "b1.1;o0-9;t30;w12");
            case 8: return x.restore(1);
            default: return x.set(2, 3);
        }
    }

    private static void eachChange() {
        for (int which = 0; which < 10; which++) {
            PlugPins x = busy();
            x.undo();
            x.undo();
            x.save(1);
            x.pass(3);
            String before = Due.seen(x);
            int changes = x.count(19);
            DUE.is("change " + which + " returns no error", change(x, which) < 0 ? 1 : 0, 0);
            DUE.is("it can be undone", x.count(19), changes + 1);
            DUE.same("it changes something: " + which, String.valueOf(Due.seen(x).equals(before)), String.valueOf(which == 9));
            DUE.is("undo()", x.undo(), changes);
            DUE.same("before change " + which, Due.seen(x), before);
        }
    }

    private static void sixStates() {
        PlugPins x = new PlugPins();
        for (int i = 1; i <= 20; i++) {
            x.set(1, i);
            DUE.is("changes that can be undone", x.count(19), Math.min(i, 6));
        }
        for (int left = 5; left >= 0; left--) {
            DUE.is("undo()", x.undo(), left);
            DUE.is("the setting", x.count(14), 14 + left);
        }
        DUE.is("no more", x.undo(), -5);
        DUE.is("the setting", x.count(14), 14);
        x.set(1, 50);
        DUE.is("one again", x.undo(), 0);
        DUE.is("the setting", x.count(14), 14);
        DUE.is("no more", x.undo(), -5);
    }

    private static void whatStays() {
        PlugPins x = new PlugPins();
        x.board(1, 1);
        Due.write(x, "t1;t");
        x.save(0);
        x.board(2, 2);
        x.put('7');
        x.save(1);
        DUE.is("undo()", x.undo(), 1);
        DUE.is("undo()", x.undo(), 0);
        DUE.is("the pad stays", x.count(18), 5);
        DUE.is("and its text", x.fault(), -6);
        DUE.is("a slot stays", x.restore(1), 2);
        DUE.is("a slot stays", x.restore(0), 1);
        DUE.is("the pad stays", x.count(18), 5);
    }

    private static void afterUndo() {
        PlugPins x = Due.withKnown(2);
        x.send(0, 1);
        x.pass(1);
        x.undo();
        DUE.is("it waits again", x.waiting(0), 0);
        x.undo();
        DUE.is("it was not sent", x.count(4), 0);
        DUE.is("another one", x.send(1, 0), 0);
        DUE.is("from the board 1", x.word(0, 0), 1);
        DUE.is("delivered", x.pass(4), 1);
        x.board(7, 7);
        x.plug(2, 2, 24);
        x.pass(1);
        x.undo();
        x.undo();
        x.undo();
        DUE.is("no board 2", x.of(2, 0), -1);
        DUE.is("slot 2 is free", x.slot(2), -6);
        DUE.is("another one", x.board(8, 8), 2);
        int[] due = {8, 8, -6, 0, 100, 0, 0, 0, 0, 0, 0};
        for (int what = 0; what < due.length; what++) {
            DUE.is("it is new: of(2, " + what + ")", x.of(2, what), due[what]);
        }
    }

    /** A text takes a board and a word far in one change: nothing of them is left when it is undone. */
    private static void afterUndoneText() {
        String[] texts = {"b8.8;i2@2+1;t9", "b8.8;i2@2+24;t5", "b8.8;i2@2+24;t9;a2", "b8.8;i2@2+24;t9;o2-24;t1;i2@4+9"};
        int[] due = {7, 9, -6, 0, 100, 0, 0, 0, 0, 0, 0};
        for (String text : texts) {
            PlugPins x = Due.withKnown(2);
            Due.run(x, text);
            x.undo();
            DUE.is("no board in a slot", x.count(2), 3);
            DUE.is("no power", x.count(9), 2);
            DUE.is("nothing pulled too soon", x.count(12), 0);
            DUE.is("a new board", x.board(7, 9), 2);
            for (int what = 0; what < due.length; what++) {
                DUE.is(text + " undone: of(2, " + what + ")", x.of(2, what), due[what]);
            }
        }
        PlugPins y = Due.withKnown(2);
        y.set(0, 0);
        Due.run(y, "b8.8;w01;t1;i2@2+24;t1");
        DUE.is("hurt", y.word(0, 3), 1);
        y.undo();
        DUE.is("a new word", y.send(1, 0), 0);
        int[] word = {1, 0, 0, 0, 0};
        for (int what = 0; what < word.length; what++) {
            DUE.is("word(0, " + what + ")", y.word(0, what), word[what]);
        }
    }

    /** The same numbers stand for other boards and words in the slot than in what it is restored to. */
    private static void savedWithOtherBoards() {
        PlugPins x = new PlugPins();
        x.save(0);
        x.board(10, 20);
        x.board(11, 21);
        Due.run(x, "i0@0+24;i1@1+24;t20;w10;t2");
        x.save(1);
        String before = Due.seen(x);
        x.restore(0);
        x.board(30, 40);
        x.board(31, 41);
        Due.run(x, "i0@3+24;i1@4+24;t20;w01;t9;w01;w01");
        DUE.is("another word of it", x.of(0, 0), 30);
        DUE.is("restore(1)", x.restore(1), 2);
        DUE.same("what was saved", Due.seen(x), before);
        DUE.is("its word", x.of(0, 0), 10);
        DUE.is("its current", x.of(1, 1), 21);
        DUE.is("sent by", x.word(0, 0), 1);
    }

    private static void noChangeRecords() {
        PlugPins x = busy();
        x.undo();
        int changes = x.count(19);
        x.of(0, 0);
        x.slot(0);
        x.word(0, 0);
        x.waiting(0);
        x.known(10);
        x.why(0, 1);
        x.knownIn(3);
        x.wouldHurt(3, 3, 5);
        x.safeSpeed(3, 3);
        x.quietIn();
        x.put('t');
        x.fault();
        x.carryOut();
        x.wipe();
        x.save(0);
        x.set(0, 7);
        x.board(100, 1);
        x.plug(9, 0, 1);
        x.pull(9, 1);
        x.ask(9);
        x.send(0, 0);
        x.pass(0);
        x.restore(1);
        DUE.is("changes", x.count(19), changes);
        x.restore(0);
        DUE.is("restore() is one", x.count(19), Math.min(6, changes + 1));
    }

    private static void saving() {
        PlugPins x = new PlugPins();
        DUE.is("save(0) without boards", x.save(0), 0);
        x.board(1, 1);
        x.board(2, 2);
        DUE.is("save(1)", x.save(1), 2);
        x.board(3, 3);
        DUE.is("restore(0)", x.restore(0), 0);
        DUE.is("boards", x.count(1), 0);
        DUE.is("restore(1)", x.restore(1), 2);
        DUE.is("its word", x.of(1, 0), 2);
        x.board(4, 4);
        DUE.is("overwritten", x.save(1), 3);
        x.undo();
        x.undo();
        DUE.is("restore(1)", x.restore(1), 3);
        DUE.is("its word", x.of(2, 0), 4);
    }

    private static void savedStays() {
        PlugPins x = busy();
        String before = Due.seen(busy());
        DUE.is("save(0)", x.save(0), 4);
        for (int round = 0; round < 2; round++) {
            x.set(4, 200 + round);
            x.pull(0, 3);
            x.pass(40);
            x.board(1, 1);
            DUE.is("restore(0)", x.restore(0), 4);
            DUE.same("what was saved", Due.seen(x), before);
        }
        x.undo();
        DUE.same("what was there is back", String.valueOf(Due.seen(x).equals(before)), "false");
    }

    private static void restoring() {
        PlugPins x = busy();
        x.save(0);
        Due.write(x, "t1");
        x.set(0, 0);
        String before = Due.seen(x);
        DUE.is("restore(0)", x.restore(0), 4);
        DUE.is("HOLD is a part of it", x.count(13), 1);
        DUE.is("the pad stays", x.count(18), 2);
        DUE.is("the history stays", x.count(19), 6);
        DUE.is("undo()", x.undo(), 5);
        DUE.same("before it", Due.seen(x), before);
        DUE.is("the slot keeps it", x.restore(0), 4);
        DUE.is("HOLD", x.count(13), 1);
        DUE.is("the other slot", x.restore(1), -5);
    }

    private static void slotErrors() {
        PlugPins x = busy();
        DUE.is("restore(0) of nothing", x.restore(0), -5);
        DUE.is("restore(1) of nothing", x.restore(1), -5);
        for (int slot : new int[] {-1, 2, 3, -6}) {
            DUE.is("save(" + slot + ")", x.save(slot), -2);
            DUE.is("restore(" + slot + ")", x.restore(slot), -2);
        }
        for (int end : Due.ENDS) {
            DUE.is("save(" + end + ")", x.save(end), -2);
            DUE.is("restore(" + end + ")", x.restore(end), -2);
        }
        DUE.is("restore(0) of nothing yet", x.restore(0), -5);
        x.save(1);
        DUE.is("the other one", x.restore(0), -5);
    }
}
