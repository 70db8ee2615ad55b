/** Counts the answers that are not as due, and what the tests share to come to a state. */
final class Due {
    static final int[] ENDS = {Integer.MIN_VALUE, Integer.MIN_VALUE + 1, -1000, -1, 1000, 65536, Integer.MAX_VALUE - 1, Integer.MAX_VALUE};

    private static final int LATEST_WORDS = 14;

    private final String test;
    private int checks;
    private int wrong;

    Due(String test) {
        this.test = test;
    }

    void is(String call, long got, long want) {
        checks++;
        if (got != want) {
            wrong++;
            System.out.println(test + ": " + call + " answered " + got + ", due is " + want);
        }
    }

    void same(String what, String got, String want) {
        checks++;
        if (!got.equals(want)) {
            wrong++;
            System.out.println(test + ": " + what + " is\n  " + got + ", due is\n  " + want);
        }
    }

    void end() {
        System.out.println(test + ": " + checks + " checks, " + wrong + " not as due");
        if (wrong != 0 || checks == 0) {
            System.exit(1);
        }
    }

    /** The number by which up to 8 characters are given to put(). */
    static long number(String characters) {
        long number = 0;
        for (int i = 0; i < characters.length(); i++) {
            number = number << 8 | characters.charAt(i);
        }
        return number;
    }

    /** Appends a text to the pad, and answers what the last put() did. */
    static int write(PlugPins x, String text) {
        int answer = 0;
        for (int i = 0; i < text.length(); i += 8) {
            answer = x.put(number(text.substring(i, Math.min(text.length(), i + 8))));
        }
        return answer;
    }

    /** Writes a text on an empty pad and carries it out. */
    static int run(PlugPins x, String text) {
        x.wipe();
        write(x, text);
        return x.carryOut();
    }

    /** An object with so many boards (up to 5) of the current 1 that are all known, at the time 8. */
    static PlugPins withKnown(int boards) {
        PlugPins x = new PlugPins();
        for (int i = 0; i < boards; i++) {
            x.board(10 + i, 1);
            x.plug(i, i, 24);
        }
        x.pass(8);
        return x;
    }

    /**
     * All that can be seen of an object, but for its pad and how many changes can be undone; of its words the latest
     * ones alone, as an object is used for 512 calls at most.
     */
    static String seen(PlugPins x) {
        StringBuilder all = new StringBuilder();
        for (int what = 0; what < 18; what++) {
            all.append(x.count(what)).append(' ');
        }
        for (int board = 0; board < 8; board++) {
            all.append('|');
            for (int what = 0; what < 11; what++) {
                all.append(x.of(board, what)).append(' ');
            }
        }
        all.append("|slots ");
        for (int slot = 0; slot < 5; slot++) {
            all.append(x.slot(slot)).append(' ');
        }
        all.append("|words ");
        int sent = x.count(4);
        for (int word = Math.max(0, sent - LATEST_WORDS); word <= sent; word++) {
            for (int what = 0; what < 5; what++) {
                all.append(x.word(word, what)).append(' ');
            }
        }
        all.append("|waiting ");
        for (int rank = 0; rank < 10; rank++) {
            all.append(x.waiting(rank)).append(' ');
        }
        return all.toString();
    }

    /** All that can be seen, with the pad's length and fault and the length of the history. */
    static String seenWhole(PlugPins x) {
        return seen(x) + "|pad " + x.count(18) + " " + x.fault() + "|history " + x.count(19);
    }
}
