import java.util.Random;

/**
 * Runs of random calls: every answer is the model's, and what if is what comes to be. No object is called more than
 * 512 times, as what later calls answer is free.
 */
public final class RandomRunsTest {
    private static final Due DUE = new Due("RandomRunsTest");
    private static final int RUNS = 1500;
    private static final int CALLS = 512;
    /** What one step and all that is looked at behind it take at most. */
    private static final int CALLS_OF_STEP = 40;
    private static final int CALLS_OF_WHOLE = 114;
    private static final String SIGNS = "biowat0123456789.@+-;";

    private final PlugPins real = new PlugPins();
    private final Model model = new Model();
    private final Random random;
    private final boolean isWild;
    private int calls;

    private RandomRunsTest(long seed) {
        random = new Random(seed);
        isWild = seed % 5 == 0;
    }

    public static void main(String[] args) {
        for (int run = 0; run < RUNS; run++) {
            RandomRunsTest one = new RandomRunsTest(run);
            int kept = run % 2 == 0 ? CALLS_OF_STEP : CALLS_OF_STEP + CALLS_OF_WHOLE;
            while (one.calls < CALLS - kept) {
                one.randomCall("run " + run + ", call " + one.calls + ": ", one.random.nextInt(100));
            }
            one.compareWhole("run " + run);
        }
        for (int run = 0; run < 300; run++) {
            new RandomRunsTest(7000 + run).foresee("run " + run);
        }
        DUE.end();
    }

    private int pick(int lowest, int highest) {
        int odd = random.nextInt(isWild ? 12 : 60);
        if (odd == 0) {
            return random.nextBoolean() ? lowest - 1 : highest + 1;
        }
        if (odd == 1 && isWild) {
            return Due.ENDS[random.nextInt(Due.ENDS.length)];
        }
        return lowest + random.nextInt(highest - lowest + 1);
    }

    private int board() {
        return pick(0, Math.max(0, Integer.bitCount(model.count(1)) - 1));
    }

    private int slotOf(int board) {
        int slot = model.of(board, 2);
        return slot >= 0 && random.nextInt(4) > 0 ? slot : pick(0, 4);
    }

    private void is(String name, int got, int want) {
        calls++;
        DUE.is(name, got, want);
    }

    private void randomCall(String run, int kind) {
        if (kind < 45) {
            moving(run, kind);
        } else if (kind < 70) {
            words(run, kind);
        } else if (kind < 85) {
            asking(run, kind);
        } else if (kind < 94) {
            texts(run, kind);
        } else {
            saving(run, kind);
        }
    }

    private void moving(String run, int kind) {
        if (kind < 4) {
            int setting = pick(0, 4);
            int[] highest = {1, 50, 9, 9, 300};
            int value = setting < 0 || setting > 4 ? 1 : pick(setting == 4 ? 10 : setting == 0 ? 0 : 1, highest[setting]);
            is(run + "set(" + setting + ", " + value + ")", real.set(setting, value), model.set(setting, value));
        } else if (kind < 10) {
            int code = pick(0, random.nextBoolean() ? 3 : 99);
            int current = pick(1, random.nextInt(3) > 0 ? 20 : 60);
            is(run + "board(" + code + ", " + current + ")", real.board(code, current), model.board(code, current));
        } else if (kind < 24) {
            int board = board();
            int slot = slotOf(board);
            int speed = pick(1, 24);
            is(run + "plug(" + board + ", " + slot + ", " + speed + ")", real.plug(board, slot, speed), model.plug(board, slot, speed));
        } else if (kind < 29) {
            int board = board();
            int speed = pick(1, random.nextInt(3) == 0 ? 24 : 3);
            is(run + "pull(" + board + ", " + speed + ")", real.pull(board, speed), model.pull(board, speed));
        } else {
            int ticks = pick(1, random.nextInt(12) == 0 ? 99 : random.nextBoolean() ? 2 : 8);
            is(run + "pass(" + ticks + ")", real.pass(ticks), model.pass(ticks));
        }
    }

    private void words(String run, int kind) {
        int from = board();
        int to = board();
        if (kind < 62) {
            is(run + "send(" + from + ", " + to + ")", real.send(from, to), model.send(from, to));
        } else if (kind < 64) {
            is(run + "ask(" + from + ")", real.ask(from), model.ask(from));
        } else if (kind < 66) {
            is(run + "why(" + from + ", " + to + ")", real.why(from, to), model.why(from, to));
        } else if (kind < 68) {
            is(run + "quietIn()", real.quietIn(), model.quietIn());
        } else {
            int rank = pick(0, 9);
            is(run + "waiting(" + rank + ")", real.waiting(rank), model.waiting(rank));
        }
    }

    private void asking(String run, int kind) {
        int board = board();
        int slot = slotOf(board);
        if (kind < 74) {
            int speed = pick(1, 24);
            is(run + "wouldHurt(" + board + ", " + slot + ", " + speed + ")", real.wouldHurt(board, slot, speed), model.wouldHurt(board, slot, speed));
        } else if (kind < 78) {
            is(run + "safeSpeed(" + board + ", " + slot + ")", real.safeSpeed(board, slot), model.safeSpeed(board, slot));
        } else if (kind < 80) {
            is(run + "knownIn(" + board + ")", real.knownIn(board), model.knownIn(board));
        } else if (kind < 82) {
            int what = pick(0, 10);
            is(run + "of(" + board + ", " + what + ")", real.of(board, what), model.of(board, what));
        } else if (kind < 84) {
            int what = pick(0, 19);
            is(run + "count(" + what + ")", real.count(what), model.count(what));
        } else {
            int code = pick(0, 3);
            is(run + "known(" + code + ")", real.known(code), model.known(code));
        }
    }

    private String randomOrder() {
        int one = random.nextInt(6);
        int other = random.nextInt(5);
        switch (random.nextInt(isWild ? 8 : 7)) {
            case 0: return "b" + random.nextInt(100) + "." + random.nextInt(62);
            case 1: return "i" + one + "@" + other + "+" + random.nextInt(26);
            case 2: return "o" + one + "-" + (1 + random.nextInt(25));
            case 3: return "a" + one;
            case 4: return "w" + one + other;
            case 5: return "t" + random.nextInt(12);
            case 6: return "w" + other + one;
            default: return "" + SIGNS.charAt(random.nextInt(SIGNS.length())) + SIGNS.charAt(random.nextInt(SIGNS.length()));
        }
    }

    private void texts(String run, int kind) {
        if (kind < 90) {
            StringBuilder text = new StringBuilder(random.nextInt(3) == 0 ? ";" : "");
            text.append(randomOrder());
            for (int more = random.nextInt(7); more > 0; more--) {
                text.append(";").append(randomOrder());
            }
            for (int i = 0; i < text.length(); i += 8) {
                long number = Due.number(text.substring(i, Math.min(text.length(), i + 8)));
                is(run + "put(" + number + ")", real.put(number), model.put(number));
            }
            is(run + "fault()", real.fault(), model.fault());
        } else if (kind < 91) {
            long number = random.nextLong() >>> random.nextInt(64) & (random.nextBoolean() ? 0x7f7f7f7f7f7f7f7fL : -1L);
            is(run + "put(" + number + ")", real.put(number), model.put(number));
            is(run + "wipe()", real.wipe(), model.wipe());
        } else {
            int done = model.carryOut();
            is(run + "carryOut()", real.carryOut(), done);
            if (done == -3) {
                is(run + "wipe()", real.wipe(), model.wipe());
            }
        }
    }

    private void saving(String run, int kind) {
        if (kind < 97) {
            is(run + "undo()", real.undo(), model.undo());
        } else {
            int slot = pick(0, 1);
            if (random.nextInt(3) > 0) {
                is(run + "save(" + slot + ")", real.save(slot), model.save(slot));
            } else {
                is(run + "restore(" + slot + ")", real.restore(slot), model.restore(slot));
            }
            compareSome(run + "after it", 25);
        }
    }

    private void compareSome(String run, int looks) {
        for (int look = 0; look < looks; look++) {
            int one = random.nextInt(8);
            switch (random.nextInt(4)) {
                case 0 -> compareCount(run, random.nextInt(20));
                case 1 -> compareBoard(run, one, random.nextInt(11));
                case 2 -> compareWord(run, Math.max(0, model.count(4) - one), random.nextInt(5));
                default -> is(run + ": waiting(" + one + ")", real.waiting(one), model.waiting(one));
            }
        }
    }

    /** As much as can be looked at up to the last call. */
    private void compareWhole(String run) {
        if (calls + CALLS_OF_WHOLE <= CALLS) {
            for (int what = 0; what < 20; what++) {
                compareCount(run, what);
            }
            for (int board = 0; board < 8; board++) {
                for (int what = 0; what < 11; what++) {
                    compareBoard(run, board, what);
                }
            }
            for (int slot = 0; slot < 5; slot++) {
                is(run + ": slot(" + slot + ")", real.slot(slot), model.slot(slot));
            }
            is(run + ": fault()", real.fault(), model.fault());
        }
        while (calls < CALLS) {
            compareWord(run, random.nextInt(model.count(4) + 1), random.nextInt(5));
        }
    }

    private void compareCount(String run, int what) {
        is(run + ": count(" + what + ")", real.count(what), model.count(what));
    }

    private void compareBoard(String run, int board, int what) {
        is(run + ": of(" + board + ", " + what + ")", real.of(board, what), model.of(board, what));
    }

    private void compareWord(String run, int word, int what) {
        is(run + ": word(" + word + ", " + what + ")", real.word(word, what), model.word(word, what));
    }

    /** What knownIn(), quietIn() and wouldHurt() tell, held against what is so when the ticks pass. */
    private void foresee(String run) {
        while (calls < CALLS / 3) {
            randomCall(run, random.nextInt(70));
        }
        while (calls < CALLS - CALLS_OF_STEP) {
            randomCall(run, random.nextInt(70));
            int board = board();
            foreseeKnown(run, board);
            foreseeHurts(run, board, slotOf(board), pick(1, 24));
            foreseeQuiet(run);
        }
    }

    private void foreseeKnown(String run, int board) {
        calls++;
        int ticks = real.knownIn(board);
        if (ticks > 1 && ticks < 99) {
            calls += 4;
            real.pass(ticks - 1);
            is(run + ": known one tick ahead", real.of(board, 6), 0);
            real.undo();
            real.pass(ticks);
            is(run + ": known", real.of(board, 6), 1);
            is(run + ": known in none", real.knownIn(board), 0);
            real.undo();
        }
    }

    private void foreseeHurts(String run, int board, int slot, int speed) {
        calls += 3;
        int hurts = real.wouldHurt(board, slot, speed);
        int before = real.count(11);
        int answer = real.plug(board, slot, speed);
        is(run + ": errors as for plug()", Math.min(hurts, 0), Math.min(answer, 0));
        if (answer >= 0) {
            calls += 3;
            is(run + ": as plugged already", real.wouldHurt(board, slot, speed), hurts);
            real.pass((24 - answer + speed - 1) / speed);
            is(run + ": it stands", real.of(board, 4), 100);
            is(run + ": hurt", real.count(11) - before, hurts);
            real.undo();
            real.undo();
        }
    }

    private void foreseeQuiet(String run) {
        calls++;
        int ticks = real.quietIn();
        if (ticks > 1 && ticks < 99) {
            calls += 4;
            real.pass(ticks - 1);
            is(run + ": not quiet one tick ahead", real.quietIn(), 1);
            real.undo();
            real.pass(ticks);
            is(run + ": quiet", real.quietIn(), 0);
            is(run + ": none is on the bus", real.count(7), -6);
            is(run + ": none waits", real.waiting(0), -1);
            real.undo();
        }
    }
}
