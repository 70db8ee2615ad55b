import java.util.ArrayList;
import java.util.List;
import java.util.function.Supplier;
import java.util.function.ToIntFunction;

/** The sentences of the promises 24 to 26 that name an edge: six states, what is recorded, two slots, what stays. */
public final class EdgesOfUndoTest {
    private static final Due DUE = new Due("EdgesOfUndoTest");
    private static final Edges EDGES = new Edges(DUE);

    public static void main(String[] args) {
        undoAsThereIsNone();
        sixStatesAtMost();
        changesAndUndosInTurn();
        eachChangeInAFullHistory();
        recordedAlsoIfNothingIsDifferent();
        errorsRecordNothing();
        otherCallsRecordNothing();
        ordersRecordNothing();
        undoLeavesThePad();
        undoLeavesTheSlots();
        undoRecordsNothing();
        slotsToSaveIn();
        saveReturnsHowManyBoards();
        saveOverwrites();
        saveLeavesAllElse();
        slotsToRestore();
        restoreOfNothing();
        restoreReturnsHowManyBoards();
        restoreKeepsTheSlot();
        restoreIsAChange();
        restoreLeavesPadAndHistory();
        DUE.end();
    }

    // ---- promise 24: undo

    /** "NOT_POSSIBLE if there is none". */
    private static void undoAsThereIsNone() {
        EDGES.refused("a new object", PlugPins::new, PlugPins::undo, -5);
        EDGES.refused("all is undone", () -> undone(Edges.busy(), 6), PlugPins::undo, -5);
        EDGES.refused("the short history is undone", () -> undone(Edges.shortHistory(), 2), PlugPins::undo, -5);
    }

    private static PlugPins undone(PlugPins x, int times) {
        for (int i = 0; i < times; i++) {
            x.undo();
        }
        return x;
    }

    /** "A history of at most 6 states is kept"; "when one more is recorded, the oldest one is dropped". */
    private static void sixStatesAtMost() {
        for (int changes = 0; changes <= 40; changes++) {
            PlugPins x = new PlugPins();
            for (int i = 1; i <= changes; i++) {
                x.set(1, i);
            }
            int kept = Math.min(changes, 6);
            DUE.is("can be undone of " + changes, x.count(19), kept);
            for (int back = 1; back <= kept; back++) {
                DUE.is("undo()", x.undo(), kept - back);
                DUE.is("the setting", x.count(14), changes == back ? 20 : changes - back);
            }
            DUE.is("no more of " + changes, x.undo(), -5);
        }
    }

    /** So many changes, so many undos, and so many changes again: held against a list of what was before them. */
    private static void changesAndUndosInTurn() {
        for (int changes = 0; changes <= 9; changes++) {
            for (int undos = 0; undos <= 7; undos++) {
                for (int again = 0; again <= 8; again++) {
                    inTurn(changes, undos, again);
                }
            }
        }
    }

    private static void inTurn(int changes, int undos, int again) {
        PlugPins x = new PlugPins();
        List<Integer> before = new ArrayList<>();
        int[] value = {20};
        for (int i = 0; i < changes; i++) {
            change(x, before, value, 21 + i);
        }
        for (int i = 0; i < undos; i++) {
            takeBack(x, before, value);
        }
        for (int i = 0; i < again; i++) {
            change(x, before, value, 31 + i);
        }
        for (int i = 0; i < 7; i++) {
            takeBack(x, before, value);
        }
    }

    private static void change(PlugPins x, List<Integer> before, int[] value, int next) {
        DUE.is("set()", x.set(1, next), value[0]);
        before.add(value[0]);
        if (before.size() > 6) {
            before.remove(0);
        }
        value[0] = next;
    }

    private static void takeBack(PlugPins x, List<Integer> before, int[] value) {
        DUE.is("undo()", x.undo(), before.isEmpty() ? -5 : before.size() - 1);
        if (!before.isEmpty()) {
            value[0] = before.remove(before.size() - 1);
        }
        DUE.is("the setting", x.count(14), value[0]);
        DUE.is("changes", x.count(19), before.size());
    }

    /** "when one more is recorded, the oldest one is dropped", by each method that is a change. */
    private static void eachChangeInAFullHistory() {
        inAFullHistory("set()", x -> x.set(3, 9));
        inAFullHistory("board()", x -> x.board(1, 1));
        inAFullHistory("plug()", x -> x.plug(4, 4, 1));
        inAFullHistory("pull()", x -> x.pull(1, 1));
        inAFullHistory("ask()", x -> x.ask(0));
        inAFullHistory("send()", x -> x.send(0, 1));
        inAFullHistory("pass()", x -> x.pass(99));
        inAFullHistory("carryOut()", x -> Due.run(x, "t9;b1.1"));
        inAFullHistory("restore()", x -> x.restore(0));
    }

    private static void inAFullHistory(String name, ToIntFunction<PlugPins> call) {
        PlugPins x = Edges.busy();
        String before = Due.seen(x);
        DUE.is("the history is full", x.count(19), 6);
        DUE.is(name + " is no error", call.applyAsInt(x) < 0 ? 1 : 0, 0);
        DUE.is("it is full with " + name, x.count(19), 6);
        DUE.is("undo() of " + name, x.undo(), 5);
        DUE.same("before " + name, Due.seen(x), before);
        undone(x, 4);
        DUE.is("the last one", x.undo(), 0);
        DUE.is("the oldest one was dropped", x.undo(), -5);
        DUE.is("the second one stays the first", x.count(4), 2);
    }

    /** "(also if nothing is different then)". */
    private static void recordedAlsoIfNothingIsDifferent() {
        recorded("set() to the same", Edges::shortHistory, x -> x.set(0, 1));
        recorded("plug() at the same speed", () -> on(Edges.shortHistory(), x -> x.plug(3, 3, 5)), x -> x.plug(3, 3, 5));
        recorded("pull() at the same speed", () -> on(Edges.shortHistory(), x -> x.pull(0, 5)), x -> x.pull(0, 5));
        recorded("carryOut() of none", () -> on(Edges.shortHistory(), x -> Due.write(x, "t0")), PlugPins::carryOut);
        recorded("restore() of the same", () -> on(Edges.shortHistory(), x -> x.save(1)), x -> x.restore(1));
    }

    private static PlugPins on(PlugPins x, ToIntFunction<PlugPins> call) {
        call.applyAsInt(x);
        return x;
    }

    private static void recorded(String name, Supplier<PlugPins> start, ToIntFunction<PlugPins> call) {
        PlugPins x = start.get();
        int changes = x.count(19);
        String before = Due.seen(x);
        DUE.is(name + " is no error", call.applyAsInt(x) < 0 ? 1 : 0, 0);
        DUE.same(name + ": nothing is different", Due.seen(x), before);
        DUE.is(name + " is recorded", x.count(19), changes + 1);
        DUE.is("undo()", x.undo(), changes);
        DUE.same(name + " undone: nothing is different", Due.seen(x), before);
    }

    /** "each method that is a change, and returns no error, records": with an error it does not, in a history with room. */
    private static void errorsRecordNothing() {
        EDGES.refused("set()", Edges::shortHistory, x -> x.set(0, 2), -2);
        EDGES.refused("board()", Edges::shortHistory, x -> x.board(0, 0), -2);
        EDGES.refused("plug() without such a board", Edges::shortHistory, x -> x.plug(5, 4, 1), -1);
        EDGES.refused("plug() at no speed", Edges::shortHistory, x -> x.plug(4, 4, 0), -2);
        EDGES.refused("plug() at the depth 24", Edges::shortHistory, x -> x.plug(0, 0, 1), -5);
        EDGES.refused("pull() without such a board", Edges::shortHistory, x -> x.pull(5, 1), -1);
        EDGES.refused("pull() at no speed", Edges::shortHistory, x -> x.pull(0, 0), -2);
        EDGES.refused("pull() on the shelf", Edges::shortHistory, x -> x.pull(4, 1), -5);
        EDGES.refused("ask() without such a board", Edges::shortHistory, x -> x.ask(5), -1);
        EDGES.refused("ask() of one that is not known", Edges::shortHistory, x -> x.ask(3), -5);
        EDGES.refused("send() without such a board", Edges::shortHistory, x -> x.send(0, 5), -1);
        EDGES.refused("send() to itself", Edges::shortHistory, x -> x.send(0, 0), -2);
        EDGES.refused("send() to one that is not known", Edges::shortHistory, x -> x.send(0, 3), -5);
        EDGES.refused("pass() of none", Edges::shortHistory, x -> x.pass(0), -2);
        EDGES.refused("carryOut() of an empty pad", Edges::shortHistory, PlugPins::carryOut, -3);
        EDGES.refused("restore() of no slot", Edges::shortHistory, x -> x.restore(2), -2);
        EDGES.refused("restore() of nothing", Edges::shortHistory, x -> x.restore(0), -5);
    }

    private static void otherCallsRecordNothing() {
        PlugPins x = Edges.shortHistory();
        for (int saving = 0; saving < 10; saving++) {
            x.save(saving % 2);
            x.put('t');
            x.fault();
            DUE.is("changes", x.count(19), 2);
        }
        x.wipe();
        DUE.is("wipe() is none", x.count(19), 2);
        x.undo();
        DUE.is("undo() is none", x.count(19), 1);
    }

    /** "An order of a text records nothing by itself." */
    private static void ordersRecordNothing() {
        PlugPins x = new PlugPins();
        x.set(1, 30);
        x.set(1, 40);
        Due.run(x, "t1;t1;t1;t1;t1;t1;t1;t1;t1;t1;t1;t1;t1;t1;t1;t1;t1;t1;t1;t1;t1;t1;t1;t1;t1;t1;t1");
        DUE.is("27 orders are one change", x.count(19), 3);
        DUE.is("undo()", x.undo(), 2);
        DUE.is("the time", x.count(0), 0);
        DUE.is("the setting", x.count(14), 40);
        x.undo();
        DUE.is("the setting before", x.count(14), 30);
    }

    /** "everything except the pad [..] is as it was before it". */
    private static void undoLeavesThePad() {
        PlugPins x = Edges.shortHistory();
        x.set(1, 30);
        Due.write(x, "t7;t");
        x.undo();
        DUE.is("what was written behind the change", x.count(18), 4);
        x.put('8');
        DUE.is("its text", x.carryOut(), 2);
        DUE.is("its ticks", x.count(0), 8 + 15);
        x.undo();
        DUE.is("what was carried out does not come back", x.count(18), 0);
        Due.write(x, "t1");
        x.set(1, 30);
        x.wipe();
        x.undo();
        DUE.is("nor what was wiped", x.count(18), 0);
    }

    /** "the slots": what is saved stays, also of a state that was undone. */
    private static void undoLeavesTheSlots() {
        PlugPins x = Edges.shelf(2);
        x.save(0);
        x.board(3, 3);
        x.save(1);
        undone(x, 3);
        DUE.is("without boards", x.count(1), 0);
        DUE.is("the slot 1", x.restore(1), 3);
        DUE.is("a board that was undone", x.of(2, 0), 3);
        DUE.is("the slot 0", x.restore(0), 2);
        undone(x, 2);
        DUE.is("both restored are undone", x.count(1), 0);
        DUE.is("the slot 1 again", x.restore(1), 3);
    }

    private static void undoRecordsNothing() {
        PlugPins x = new PlugPins();
        x.set(1, 30);
        x.set(1, 40);
        DUE.is("undo()", x.undo(), 1);
        DUE.is("the one before, not the undo", x.undo(), 0);
        DUE.is("the setting", x.count(14), 20);
        DUE.is("no more", x.undo(), -5);
    }

    // ---- promise 25: save

    /** "slot: 0 or 1"; "BAD_VALUE if there is no such slot". */
    private static void slotsToSaveIn() {
        EDGES.range("save()", Edges::busy, PlugPins::save, 0, 1, -2, n -> 5);
        EDGES.range("save() of a new object", PlugPins::new, PlugPins::save, 0, 1, -2, n -> 0);
    }

    private static void saveReturnsHowManyBoards() {
        for (int boards = 0; boards <= 8; boards++) {
            DUE.is("boards", Edges.shelf(boards).save(1), boards);
        }
    }

    /** "and overwrites what was saved there". */
    private static void saveOverwrites() {
        for (int slot = 0; slot < 2; slot++) {
            PlugPins x = Edges.shelf(3);
            x.save(slot);
            x.board(50, 50);
            x.set(1, 30);
            x.save(slot);
            x.set(1, 40);
            x.save(1 - slot);
            x.set(1, 50);
            DUE.is("what was saved last", x.restore(slot), 4);
            DUE.is("its setting", x.count(14), 30);
            x.restore(1 - slot);
            DUE.is("the other slot's setting", x.count(14), 40);
        }
    }

    private static void saveLeavesAllElse() {
        PlugPins x = Edges.busy();
        String before = Due.seenWhole(x);
        x.save(0);
        x.save(1);
        DUE.same("after save()", Due.seenWhole(x), before);
    }

    // ---- promise 26: restore

    /** "BAD_VALUE if there is no such slot". */
    private static void slotsToRestore() {
        EDGES.range("restore()", () -> on(Edges.busy(), x -> x.save(1)), PlugPins::restore, 0, 1, -2, n -> 5);
        EDGES.range("restore() as nothing is saved", PlugPins::new, PlugPins::restore, 0, 1, -2, n -> -5);
    }

    /** "NOT_POSSIBLE if nothing was saved in it". */
    private static void restoreOfNothing() {
        EDGES.refused("the slot 0", Edges::shortHistory, x -> x.restore(0), -5);
        EDGES.refused("the slot 1", Edges::shortHistory, x -> x.restore(1), -5);
        EDGES.refused("the other slot is saved in", Edges::busy, x -> x.restore(1), -5);
        EDGES.refused("save() was refused", () -> on(Edges.shortHistory(), x -> x.save(2)), x -> x.restore(0), -5);
        PlugPins x = new PlugPins();
        x.save(1);
        DUE.is("what is saved may be without boards", x.restore(1), 0);
    }

    private static void restoreReturnsHowManyBoards() {
        for (int boards = 0; boards <= 8; boards++) {
            PlugPins x = Edges.shelf(boards);
            x.save(0);
            x.board(1, 1);
            DUE.is("boards then", x.restore(0), boards);
            DUE.is("the last one", x.of(boards, 0), -1);
            DUE.is("another one can come", x.board(9, 9), boards < 8 ? boards : -4);
        }
    }

    /** "Restores what was saved last in a slot, which keeps it." */
    private static void restoreKeepsTheSlot() {
        PlugPins x = Edges.busy();
        String saved = Due.seen(on(Edges.busy(), y -> y.restore(0)));
        for (int round = 0; round < 3; round++) {
            x.restore(0);
            DUE.is("the time", x.count(0), 8);
            x.pull(0, 24);
            x.pass(30);
            x.set(4, 300);
            x.board(1, 1);
        }
        x.restore(0);
        DUE.same("what was saved", Due.seen(x), saved);
    }

    /** "This is a change." */
    private static void restoreIsAChange() {
        PlugPins x = on(Edges.shortHistory(), y -> y.save(0));
        Due.run(x, "t9;b1.1;o0-9;t1");
        String before = Due.seen(x);
        DUE.is("restore()", x.restore(0), 5);
        DUE.is("changes", x.count(19), 4);
        DUE.is("undo()", x.undo(), 3);
        DUE.same("before restore()", Due.seen(x), before);
    }

    /** "everything except the pad, the history and the slots". */
    private static void restoreLeavesPadAndHistory() {
        PlugPins x = on(Edges.shortHistory(), y -> y.save(0));
        x.set(1, 30);
        Due.write(x, "t1;t");
        x.save(1);
        x.restore(0);
        DUE.is("the pad", x.count(18), 4);
        DUE.is("the history goes on", x.count(19), 4);
        DUE.is("the setting", x.count(14), 20);
        DUE.is("the other slot", x.restore(1), 5);
        DUE.is("its setting", x.count(14), 30);
        DUE.is("undo()", x.undo(), 4);
        DUE.is("undo()", x.undo(), 3);
        DUE.is("the setting before both", x.count(14), 30);
        DUE.is("undo()", x.undo(), 2);
        DUE.is("the setting before set()", x.count(14), 20);
    }
}
