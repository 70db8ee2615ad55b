import java.util.ArrayList;
import java.util.List;
import java.util.function.IntUnaryOperator;
import java.util.function.Supplier;
import java.util.function.ToIntFunction;

/** What the tests of edges share: ranges with the numbers beside them, and calls that must change nothing. */
final class Edges {
    /** A call with a number as its argument. */
    interface NumberCall {
        int answer(PlugPins x, int number);
    }

    /** Ways to go on, by which a change shows that cannot be seen at once. */
    private static final int WAYS_ON = 16;

    private final Due due;

    Edges(Due due) {
        this.due = due;
    }

    /** The numbers just beside a range, the ends of int, and those that are in the range by their lower bits alone. */
    static List<Integer> beside(int lowest, int highest) {
        List<Integer> found = new ArrayList<>();
        long[] ends = {lowest - 1, lowest - 2, highest + 1, highest + 2, -lowest, -highest, -1, 0,
            Integer.MIN_VALUE, Integer.MIN_VALUE + 1, Integer.MAX_VALUE - 1, Integer.MAX_VALUE};
        for (long end : ends) {
            addIfBeside(found, end, lowest, highest);
        }
        for (int bit = 4; bit < 32; bit++) {
            addIfBeside(found, lowest + (1L << bit), lowest, highest);
            addIfBeside(found, highest + (1L << bit), lowest, highest);
            addIfBeside(found, lowest - (1L << bit), lowest, highest);
            addIfBeside(found, highest - (1L << bit), lowest, highest);
        }
        return found;
    }

    private static void addIfBeside(List<Integer> found, long number, int lowest, int highest) {
        boolean isInt = number >= Integer.MIN_VALUE && number <= Integer.MAX_VALUE;
        if (isInt && (number < lowest || number > highest) && !found.contains((int) number)) {
            found.add((int) number);
        }
    }

    /** Each number of the range has the answer that is due, each one beside it the error; each on a new object. */
    void range(String name, Supplier<PlugPins> start, NumberCall call, int lowest, int highest, int error, IntUnaryOperator answer) {
        for (int number = lowest; number <= highest; number++) {
            due.is(name + " of " + number, call.answer(start.get(), number), answer.applyAsInt(number));
        }
        for (int number : beside(lowest, highest)) {
            due.is(name + " of " + number, call.answer(start.get(), number), error);
        }
        for (int number : new int[] {lowest - 1, highest + 1, Integer.MIN_VALUE, Integer.MAX_VALUE}) {
            refused(name + " of " + number, start, x -> call.answer(x, number), error);
        }
    }

    /** The call's answer is due, and all goes on as if it had not been called. */
    void refused(String name, Supplier<PlugPins> start, ToIntFunction<PlugPins> call, int answer) {
        for (int way = 0; way < WAYS_ON; way++) {
            PlugPins called = start.get();
            due.is(name, call.applyAsInt(called), answer);
            due.same(name + ", and then the way " + way, goneOn(called, way), goneOn(start.get(), way));
        }
    }

    private static String goneOn(PlugPins x, int way) {
        StringBuilder answers = new StringBuilder();
        answers.append(goOn(x, way)).append('|').append(Due.seenWhole(x));
        for (int board = 0; board < 8; board++) {
            answers.append(' ').append(x.knownIn(board));
        }
        answers.append(' ').append(x.quietIn()).append(' ').append(x.safeSpeed(3, 3));
        return answers.toString();
    }

    private static int goOn(PlugPins x, int way) {
        switch (way) {
            case 0: return 0;
            case 1: return x.pass(1);
            case 2: return x.pass(5);
            case 3: return x.pass(40);
            case 4: return x.restore(0);
            case 5: return x.restore(1);
            case 6: return x.put('5') * 100 + x.carryOut();
            case 7: return x.wipe() * 100 + x.put('t');
            case 8: return x.send(1, 0);
            default: return undone(x, way - 8);
        }
    }

    private static int undone(PlugPins x, int times) {
        int answers = 0;
        for (int i = 0; i < times; i++) {
            answers = 10 * answers + x.undo();
        }
        return answers;
    }

    /**
     * Five boards: 0, 1 and 2 known in their slots, 2 has asked to leave, 3 on its way into slot 3 at the depth 10,
     * 4 on the shelf; the word 0 delivered, 1 on the bus, 2 and 3 that wait; the history full, the slot 0 saved in,
     * the pad with a text that ends too early.
     */
    static PlugPins busy() {
        PlugPins x = shortHistory();
        x.save(0);
        x.pass(4);
        x.send(1, 0);
        x.send(2, 1);
        x.send(0, 1);
        x.plug(3, 3, 5);
        x.pass(2);
        x.ask(2);
        Due.write(x, "t1;b3.4;t");
        return x;
    }

    /** As busy() was before: the word 0 waits, two changes can be undone, nothing is saved, the pad is empty. */
    static PlugPins shortHistory() {
        PlugPins x = new PlugPins();
        Due.write(x, "b7.20;b9.30;b5.10;b9.12;b0.60;i0@0+24;i1@1+24;i2@2+24;t8");
        x.carryOut();
        x.send(0, 1);
        return x;
    }

    /** So many boards of the current 1 on the shelf. */
    static PlugPins shelf(int boards) {
        PlugPins x = new PlugPins();
        for (int board = 0; board < boards; board++) {
            x.board(board, 1);
        }
        return x;
    }

    /** A board of the current 1 in slot 0 at a depth above 0, reached in a tick; it moves on inward unless it is at 24. */
    static PlugPins atDepth(int depth) {
        PlugPins x = shelf(2);
        x.plug(0, 0, depth);
        x.pass(1);
        return x;
    }

    /** Two known boards in the slots 0 and 1, and one on the shelf. */
    static PlugPins twoKnown() {
        PlugPins x = Due.withKnown(2);
        x.board(50, 1);
        return x;
    }
}
