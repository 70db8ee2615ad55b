/**
 * A backplane with five slots into which boards with pins of three lengths are plugged while all
 * runs. What each call promises stands in the project's document; README.md tells how it is used.
 */
public final class PlugPins {
    public static final int NO_SUCH = -1, BAD_VALUE = -2, BAD_TEXT = -3, TOO_MANY = -4, NOT_POSSIBLE = -5, NONE = -6;
    public static final int HOLD = 0, SOFT = 1, LENGTH = 2, GREET = 3, SUPPLY = 4;

    private static final int[] LOWEST_SETTINGS = {0, 1, 1, 1, 10};
    private static final int[] HIGHEST_SETTINGS = {1, 50, 9, 9, 300};
    private static final int[] FIRST_SETTINGS = {1, 20, 3, 2, 120};
    private static final int SETTINGS = 5;

    private static final int SLOTS = 5;
    private static final int MOST_BOARDS = 8;
    private static final int HIGHEST_CODE = 99;
    private static final int HIGHEST_CURRENT = 60;

    private static final int LONG_PINS = 8;
    private static final int MIDDLE_PINS = 14;
    private static final int SHORT_PINS = 20;
    private static final int DEEPEST = 24;
    private static final int FASTEST = 24;
    private static final int FULL_POWER = 100;

    private static final int MOST_WORDS = 200;
    private static final int MOST_OPEN_WORDS = 10;
    private static final int MOST_HURTS = 3;
    private static final int WAITS = 0;
    private static final int ON_BUS = 1;
    private static final int DELIVERED = 2;
    private static final int LOST = 3;

    private static final int MOST_TICKS = 99;
    private static final int LAST_TIME = 9999;
    private static final int FORESEEN_TICKS = 200;

    private static final int PAD_ROOM = 80;
    private static final int CHARACTERS_AT_ONCE = 8;
    private static final int LOWEST_CHARACTER = 33;
    private static final int HIGHEST_CHARACTER = 126;
    private static final int MOST_ORDER_VALUES = 3;

    private static final int MOST_UNDONE = 6;
    private static final int SAVE_SLOTS = 2;

    private final Backplane backplane;
    private final Backplane trial;
    private final History history;
    private final Pad pad;
    private final Backplane[] saved;
    private final boolean[] isSaved;

    public PlugPins() {
        backplane = new Backplane();
        trial = new Backplane();
        history = new History();
        pad = new Pad();
        saved = new Backplane[SAVE_SLOTS];
        for (int i = 0; i < SAVE_SLOTS; i++) {
            saved[i] = new Backplane();
        }
        isSaved = new boolean[SAVE_SLOTS];
    }

    // ---- changes

    public int set(int setting, int value) {
        history.prepare(backplane);
        return history.settle(backplane.changeSetting(setting, value));
    }

    public int board(int word, int current) {
        history.prepare(backplane);
        return history.settle(backplane.addBoard(word, current));
    }

    public int plug(int board, int slot, int speed) {
        history.prepare(backplane);
        return history.settle(backplane.moveInward(board, slot, speed));
    }

    public int pull(int board, int speed) {
        history.prepare(backplane);
        return history.settle(backplane.moveOutward(board, speed));
    }

    public int ask(int board) {
        history.prepare(backplane);
        return history.settle(backplane.askToLeave(board));
    }

    public int send(int from, int to) {
        history.prepare(backplane);
        return history.settle(backplane.sendWord(from, to));
    }

    public int pass(int ticks) {
        history.prepare(backplane);
        return history.settle(backplane.passTicks(ticks));
    }

    // ---- what there is

    public int of(int board, int what) {
        return backplane.aboutBoard(board, what);
    }

    public int slot(int slot) {
        return isSlot(slot) ? backplane.boardIn(slot) : NO_SUCH;
    }

    public int word(int word, int what) {
        return backplane.bus.aboutWord(word, what);
    }

    public int waiting(int rank) {
        int word = backplane.bus.wordAtRank(rank);
        return word == NONE ? NO_SUCH : word;
    }

    public int count(int what) {
        switch (what) {
            case 0: return backplane.time;
            case 1: return backplane.boardSet();
            case 2: return backplane.pluggedSet();
            case 3: return backplane.knownSet();
            case 4: return backplane.bus.sent;
            case 5: return backplane.bus.delivered;
            case 6: return backplane.bus.lost;
            case 7: return backplane.bus.onBus;
            case 8: return backplane.isHeld() ? 1 : 0;
            case 9: return backplane.drawn();
            case 10: return backplane.plugs;
            case 11: return backplane.bus.hurtSoFar;
            case 12: return backplane.pulledTooSoon();
            case 13: return backplane.settings[HOLD];
            case 14: return backplane.settings[SOFT];
            case 15: return backplane.settings[LENGTH];
            case 16: return backplane.settings[GREET];
            case 17: return backplane.settings[SUPPLY];
            case 18: return pad.length;
            case 19: return history.size;
            default: return BAD_VALUE;
        }
    }

    public int known(int word) {
        return isIn(word, 0, HIGHEST_CODE) ? backplane.knownWithCode(word) : BAD_VALUE;
    }

    // ---- what if; nothing changes

    public int why(int from, int to) {
        return backplane.whyNot(from, to);
    }

    public int knownIn(int board) {
        Board wanted = backplane.boardAt(board);
        if (wanted == null) {
            return NO_SUCH;
        }
        if (wanted.slot == NONE) {
            return NOT_POSSIBLE;
        }
        trial.copyFrom(backplane);
        return trial.ticksUntilKnown(board);
    }

    public int wouldHurt(int board, int slot, int speed) {
        int error = backplane.inwardError(board, slot, speed);
        return error < 0 ? error : hurtsByPlug(board, slot, speed);
    }

    public int safeSpeed(int board, int slot) {
        int error = backplane.inwardError(board, slot, FASTEST);
        if (error < 0) {
            return error;
        }
        for (int speed = FASTEST; speed >= 1; speed--) {
            if (hurtsByPlug(board, slot, speed) == 0) {
                return speed;
            }
        }
        return NONE;
    }

    public int quietIn() {
        trial.copyFrom(backplane);
        return trial.ticksUntilQuiet();
    }

    // ---- texts

    public int put(long characters) {
        return pad.append(characters);
    }

    public int wipe() {
        return pad.clear();
    }

    public int fault() {
        return pad.faultPlace();
    }

    public int carryOut() {
        if (pad.faultPlace() != NONE) {
            return BAD_TEXT;
        }
        history.prepare(backplane);
        pad.startReading();
        int done = 0;
        // A text has fewer orders than characters, as each order has two at least.
        while (done < PAD_ROOM && pad.readOrder() && carryOutOrder() >= 0) {
            done++;
            pad.readSeparator();
        }
        pad.clear();
        return history.settle(done);
    }

    // ---- undo, saving

    public int undo() {
        return history.takeBack(backplane);
    }

    public int save(int slot) {
        if (!isIn(slot, 0, SAVE_SLOTS - 1)) {
            return BAD_VALUE;
        }
        saved[slot].copyFrom(backplane);
        isSaved[slot] = true;
        return backplane.boardCount;
    }

    public int restore(int slot) {
        if (!isIn(slot, 0, SAVE_SLOTS - 1)) {
            return BAD_VALUE;
        }
        if (!isSaved[slot]) {
            return NOT_POSSIBLE;
        }
        history.prepare(backplane);
        backplane.copyFrom(saved[slot]);
        return history.settle(backplane.boardCount);
    }

    // ---- what the calls above share

    private static boolean isIn(int value, int lowest, int highest) {
        return value >= lowest && value <= highest;
    }

    private static boolean isSlot(int slot) {
        return isIn(slot, 0, SLOTS - 1);
    }

    private int hurtsByPlug(int board, int slot, int speed) {
        trial.copyFrom(backplane);
        trial.moveInward(board, slot, speed);
        return trial.hurtsUntilStanding(board);
    }

    private int carryOutOrder() {
        int first = pad.values[0];
        int second = pad.values[1];
        int third = pad.values[2];
        switch (pad.kind) {
            case 'b': return backplane.addBoard(first, second);
            case 'i': return backplane.moveInward(first, second, third);
            case 'o': return backplane.moveOutward(first, second);
            case 'a': return backplane.askToLeave(first);
            case 'w': return backplane.sendWord(first, second);
            case 't': return backplane.passTicks(first);
            default: return BAD_TEXT;
        }
    }

    /** A board, on the shelf (its slot is NONE then, its depth 0) or in a slot. */
    private static final class Board {
        int code;
        int current;
        int slot;
        int depth;
        int speed;
        int power;
        boolean isKnown;
        boolean hasAsked;
        int greeted;
        int pulledTooSoon;

        /** Sets every field, as the place may have held a board that was undone. */
        void begin(int newCode, int newCurrent) {
            code = newCode;
            current = newCurrent;
            slot = NONE;
            depth = 0;
            speed = 0;
            power = 0;
            isKnown = false;
            hasAsked = false;
            greeted = 0;
            pulledTooSoon = 0;
        }

        void copyFrom(Board other) {
            code = other.code;
            current = other.current;
            slot = other.slot;
            depth = other.depth;
            speed = other.speed;
            power = other.power;
            isKnown = other.isKnown;
            hasAsked = other.hasAsked;
            greeted = other.greeted;
            pulledTooSoon = other.pulledTooSoon;
        }

        boolean touches(int pins) {
            return depth >= pins;
        }

        /** Whether its middle pins are about to touch or part, for which the bus is held. */
        boolean holdsBus() {
            if (speed > 0) {
                return touches(LONG_PINS) && !touches(MIDDLE_PINS);
            }
            return speed < 0 && touches(MIDDLE_PINS);
        }

        /** Moves for one tick; answers whether the middle pins touched or parted by that. */
        boolean move() {
            boolean touchedBefore = touches(MIDDLE_PINS);
            depth = Math.max(0, Math.min(DEEPEST, depth + speed));
            if (speed > 0 && depth == DEEPEST) {
                speed = 0;
            }
            if (speed < 0 && depth == 0) {
                leaveSlot();
            }
            return touches(MIDDLE_PINS) != touchedBefore;
        }

        private void leaveSlot() {
            slot = NONE;
            speed = 0;
            power = 0;
        }

        void greetForTick(int ticksNeeded) {
            if (isKnown || power < FULL_POWER) {
                return;
            }
            greeted++;
            if (greeted >= ticksNeeded) {
                isKnown = true;
                greeted = 0;
            }
        }

        void becomeUnknown() {
            if (isKnown && !hasAsked) {
                pulledTooSoon++;
            }
            isKnown = false;
            hasAsked = false;
            greeted = 0;
        }
    }

    /** The words, by their numbers: those that wait, the one on the bus, and those that ended. */
    private static final class Bus {
        final int[] senders;
        final int[] receivers;
        final int[] conditions;
        final int[] hurts;
        int sent;
        final int[] queue;
        int queued;
        int onBus;
        int ticksLeft;
        int delivered;
        int lost;
        int hurtSoFar;

        Bus() {
            senders = new int[MOST_WORDS];
            receivers = new int[MOST_WORDS];
            conditions = new int[MOST_WORDS];
            hurts = new int[MOST_WORDS];
            queue = new int[MOST_OPEN_WORDS];
            onBus = NONE;
        }

        void copyFrom(Bus other) {
            sent = other.sent;
            System.arraycopy(other.senders, 0, senders, 0, sent);
            System.arraycopy(other.receivers, 0, receivers, 0, sent);
            System.arraycopy(other.conditions, 0, conditions, 0, sent);
            System.arraycopy(other.hurts, 0, hurts, 0, sent);
            queued = other.queued;
            System.arraycopy(other.queue, 0, queue, 0, queued);
            onBus = other.onBus;
            ticksLeft = other.ticksLeft;
            delivered = other.delivered;
            lost = other.lost;
            hurtSoFar = other.hurtSoFar;
        }

        boolean isWord(int word) {
            return word >= 0 && word < sent;
        }

        boolean isBetween(int word, int board) {
            return word >= 0 && word < sent && (senders[word] == board || receivers[word] == board);
        }

        int wordAtRank(int rank) {
            return rank >= 0 && rank < queued ? queue[rank] : NONE;
        }

        int openWords() {
            return isWord(onBus) ? queued + 1 : queued;
        }

        int openWordsOf(int board) {
            int found = isBetween(onBus, board) ? 1 : 0;
            for (int rank = 0; rank < queued; rank++) {
                if (isBetween(queue[rank], board)) {
                    found++;
                }
            }
            return found;
        }

        int deliveredFrom(int board) {
            int found = 0;
            for (int word = 0; word < sent; word++) {
                if (senders[word] == board && conditions[word] == DELIVERED) {
                    found++;
                }
            }
            return found;
        }

        int aboutWord(int word, int what) {
            if (!isWord(word)) {
                return NO_SUCH;
            }
            switch (what) {
                case 0: return senders[word];
                case 1: return receivers[word];
                case 2: return conditions[word];
                case 3: return hurts[word];
                case 4: return word == onBus ? ticksLeft : 0;
                default: return BAD_VALUE;
            }
        }

        int queueWord(int from, int to) {
            if (openWords() >= MOST_OPEN_WORDS || sent >= MOST_WORDS) {
                return TOO_MANY;
            }
            int word = sent;
            senders[word] = from;
            receivers[word] = to;
            conditions[word] = WAITS;
            hurts[word] = 0;
            queue[queued] = word;
            queued++;
            sent++;
            return word;
        }

        void loseWordsOf(int board) {
            int kept = 0;
            for (int rank = 0; rank < queued; rank++) {
                int word = queue[rank];
                if (isBetween(word, board)) {
                    conditions[word] = LOST;
                    lost++;
                } else {
                    queue[kept] = word;
                    kept++;
                }
            }
            queued = kept;
            if (isBetween(onBus, board)) {
                lost++;
                freeBus(LOST);
            }
        }

        void hurtWordOnBus(int length) {
            if (!isWord(onBus)) {
                return;
            }
            hurts[onBus]++;
            hurtSoFar++;
            if (hurts[onBus] >= MOST_HURTS) {
                lost++;
                freeBus(LOST);
            } else {
                ticksLeft = length;
            }
        }

        void carryWordOnBus() {
            if (!isWord(onBus)) {
                return;
            }
            ticksLeft--;
            if (ticksLeft <= 0) {
                delivered++;
                freeBus(DELIVERED);
            }
        }

        private void freeBus(int condition) {
            if (onBus >= 0 && onBus < sent) {
                conditions[onBus] = condition;
            }
            onBus = NONE;
            ticksLeft = 0;
        }

        void takeNextWord(int knownBoards, int length) {
            for (int rank = 0; rank < queued; rank++) {
                int word = queue[rank];
                if (isWord(word) && isInSet(senders[word], knownBoards) && isInSet(receivers[word], knownBoards)) {
                    removeFromQueue(rank);
                    conditions[word] = ON_BUS;
                    onBus = word;
                    ticksLeft = length;
                    return;
                }
            }
        }

        private static boolean isInSet(int board, int set) {
            return (set >> board & 1) == 1;
        }

        private void removeFromQueue(int rank) {
            queued--;
            for (int i = rank; i < queued; i++) {
                queue[i] = queue[i + 1];
            }
        }
    }

    /** All that is undone, saved and tried out: the settings, the boards, the words and the time. */
    private static final class Backplane {
        final int[] settings;
        final Board[] boards;
        final Bus bus;
        int boardCount;
        int time;
        int plugs;

        Backplane() {
            settings = FIRST_SETTINGS.clone();
            boards = new Board[MOST_BOARDS];
            for (int i = 0; i < MOST_BOARDS; i++) {
                boards[i] = new Board();
            }
            bus = new Bus();
        }

        void copyFrom(Backplane other) {
            System.arraycopy(other.settings, 0, settings, 0, SETTINGS);
            boardCount = other.boardCount;
            for (int i = 0; i < boardCount; i++) {
                boards[i].copyFrom(other.boards[i]);
            }
            bus.copyFrom(other.bus);
            time = other.time;
            plugs = other.plugs;
        }

        /** The board with a number, null if there is none. */
        Board boardAt(int board) {
            return board >= 0 && board < boardCount ? boards[board] : null;
        }

        /** The number of the board in a slot, or NONE. */
        int boardIn(int slot) {
            for (int i = 0; i < boardCount; i++) {
                if (boards[i].slot == slot) {
                    return i;
                }
            }
            return NONE;
        }

        int boardSet() {
            return (1 << boardCount) - 1;
        }

        int pluggedSet() {
            int set = 0;
            for (int i = 0; i < boardCount; i++) {
                if (boards[i].slot != NONE) {
                    set |= 1 << i;
                }
            }
            return set;
        }

        int knownSet() {
            int set = 0;
            for (int i = 0; i < boardCount; i++) {
                if (boards[i].isKnown) {
                    set |= 1 << i;
                }
            }
            return set;
        }

        int knownWithCode(int code) {
            for (int i = 0; i < boardCount; i++) {
                if (boards[i].isKnown && boards[i].code == code) {
                    return i;
                }
            }
            return NONE;
        }

        int drawn() {
            int sum = 0;
            for (int i = 0; i < boardCount; i++) {
                sum += boards[i].current * boards[i].power / FULL_POWER;
            }
            return sum;
        }

        int pulledTooSoon() {
            int sum = 0;
            for (int i = 0; i < boardCount; i++) {
                sum += boards[i].pulledTooSoon;
            }
            return sum;
        }

        boolean isHeld() {
            if (settings[HOLD] == 0) {
                return false;
            }
            for (int i = 0; i < boardCount; i++) {
                if (boards[i].holdsBus()) {
                    return true;
                }
            }
            return false;
        }

        int aboutBoard(int number, int what) {
            Board board = boardAt(number);
            if (board == null) {
                return NO_SUCH;
            }
            switch (what) {
                case 0: return board.code;
                case 1: return board.current;
                case 2: return board.slot;
                case 3: return board.depth;
                case 4: return board.speed + 100;
                case 5: return board.power;
                case 6: return board.isKnown ? 1 : 0;
                case 7: return board.hasAsked ? 1 : 0;
                case 8: return board.greeted;
                case 9: return bus.deliveredFrom(number);
                case 10: return board.pulledTooSoon;
                default: return BAD_VALUE;
            }
        }

        int changeSetting(int setting, int value) {
            if (!isIn(setting, 0, SETTINGS - 1)) {
                return BAD_VALUE;
            }
            if (!isIn(value, LOWEST_SETTINGS[setting], HIGHEST_SETTINGS[setting])) {
                return BAD_VALUE;
            }
            int previous = settings[setting];
            settings[setting] = value;
            return previous;
        }

        int addBoard(int code, int current) {
            if (!isIn(code, 0, HIGHEST_CODE) || !isIn(current, 1, HIGHEST_CURRENT)) {
                return BAD_VALUE;
            }
            if (boardCount >= MOST_BOARDS) {
                return TOO_MANY;
            }
            int number = boardCount;
            boards[number].begin(code, current);
            boardCount++;
            return number;
        }

        /** The error for which a board cannot move inward, or 0. */
        int inwardError(int number, int slot, int speed) {
            Board board = boardAt(number);
            if (board == null || !isSlot(slot)) {
                return NO_SUCH;
            }
            if (!isIn(speed, 1, FASTEST)) {
                return BAD_VALUE;
            }
            boolean inOtherSlot = board.slot != NONE && board.slot != slot;
            int there = boardIn(slot);
            boolean slotIsTaken = there != NONE && there != number;
            if (inOtherSlot || slotIsTaken || board.depth == DEEPEST) {
                return NOT_POSSIBLE;
            }
            return 0;
        }

        int moveInward(int number, int slot, int speed) {
            int error = inwardError(number, slot, speed);
            Board board = boardAt(number);
            if (error < 0 || board == null) {
                return error;
            }
            board.slot = slot;
            board.speed = speed;
            board.hasAsked = false;
            return board.depth;
        }

        int moveOutward(int number, int speed) {
            Board board = boardAt(number);
            if (board == null) {
                return NO_SUCH;
            }
            if (!isIn(speed, 1, FASTEST)) {
                return BAD_VALUE;
            }
            if (board.slot == NONE) {
                return NOT_POSSIBLE;
            }
            board.speed = -speed;
            return board.depth;
        }

        int askToLeave(int number) {
            Board board = boardAt(number);
            if (board == null) {
                return NO_SUCH;
            }
            if (!board.isKnown || board.hasAsked) {
                return NOT_POSSIBLE;
            }
            board.hasAsked = true;
            return bus.openWordsOf(number);
        }

        int whyNot(int from, int to) {
            Board sender = boardAt(from);
            Board receiver = boardAt(to);
            if (sender == null || receiver == null) {
                return NO_SUCH;
            }
            if (from == to) {
                return BAD_VALUE;
            }
            if (!sender.isKnown) {
                return 1;
            }
            if (!receiver.isKnown) {
                return 2;
            }
            return sender.hasAsked || receiver.hasAsked ? 3 : 0;
        }

        int sendWord(int from, int to) {
            int reason = whyNot(from, to);
            if (reason < 0) {
                return reason;
            }
            return reason > 0 ? NOT_POSSIBLE : bus.queueWord(from, to);
        }

        int passTicks(int ticks) {
            if (!isIn(ticks, 1, MOST_TICKS)) {
                return BAD_VALUE;
            }
            if (time + ticks > LAST_TIME) {
                return NOT_POSSIBLE;
            }
            int deliveredBefore = bus.delivered;
            for (int i = 0; i < ticks; i++) {
                tick();
            }
            return bus.delivered - deliveredBefore;
        }

        int ticksUntilKnown(int number) {
            Board board = boardAt(number);
            if (board == null) {
                return NO_SUCH;
            }
            for (int ticks = 0; ticks <= FORESEEN_TICKS; ticks++) {
                if (board.isKnown) {
                    return ticks;
                }
                tick();
            }
            return NONE;
        }

        int ticksUntilQuiet() {
            for (int ticks = 0; ticks <= FORESEEN_TICKS; ticks++) {
                if (bus.openWords() == 0) {
                    return ticks;
                }
                tick();
            }
            return NONE;
        }

        int hurtsUntilStanding(int number) {
            Board board = boardAt(number);
            if (board == null) {
                return NO_SUCH;
            }
            int hurtsBefore = bus.hurtSoFar;
            // A board that moves inward stands after as many ticks as there are depths, at most.
            for (int i = 0; i < DEEPEST && board.speed != 0; i++) {
                tick();
            }
            return bus.hurtSoFar - hurtsBefore;
        }

        void tick() {
            boolean plugged = moveBoards();
            powerBoards();
            greetBoards();
            if (plugged) {
                plugs++;
                bus.hurtWordOnBus(settings[LENGTH]);
            } else {
                bus.carryWordOnBus();
            }
            if (bus.onBus == NONE && !isHeld()) {
                bus.takeNextWord(knownSet(), settings[LENGTH]);
            }
            time++;
        }

        /** Answers whether there was a plug. */
        private boolean moveBoards() {
            boolean plugged = false;
            for (int slot = 0; slot < SLOTS; slot++) {
                Board board = boardAt(boardIn(slot));
                if (board != null && board.move()) {
                    plugged = true;
                }
            }
            return plugged;
        }

        private void powerBoards() {
            for (int slot = 0; slot < SLOTS; slot++) {
                Board board = boardAt(boardIn(slot));
                if (board != null) {
                    powerBoard(board);
                }
            }
        }

        private void powerBoard(Board board) {
            if (!board.touches(LONG_PINS)) {
                board.power = 0;
                return;
            }
            int before = board.power;
            board.power = Math.min(FULL_POWER, before + settings[SOFT]);
            if (board.power > before && drawn() > settings[SUPPLY]) {
                board.power = before;
            }
        }

        private void greetBoards() {
            for (int i = 0; i < boardCount; i++) {
                if (boards[i].touches(SHORT_PINS)) {
                    boards[i].greetForTick(settings[GREET]);
                } else {
                    if (boards[i].isKnown) {
                        bus.loseWordsOf(i);
                    }
                    boards[i].becomeUnknown();
                }
            }
        }
    }

    /** The states before the latest changes, in a ring with one place more for the state at hand. */
    private static final class History {
        private static final int PLACES = MOST_UNDONE + 1;
        final Backplane[] states;
        int oldest;
        int size;

        History() {
            states = new Backplane[PLACES];
            for (int i = 0; i < PLACES; i++) {
                states[i] = new Backplane();
            }
        }

        private Backplane stateAt(int rank) {
            return states[Math.floorMod(oldest + rank, PLACES)];
        }

        /** Notes the state ahead of what may become a change; settle() says whether it did. */
        void prepare(Backplane before) {
            stateAt(size).copyFrom(before);
        }

        /** Records the noted state unless the answer is an error; gives the answer back. */
        int settle(int answer) {
            if (answer < 0) {
                return answer;
            }
            if (size < MOST_UNDONE) {
                size++;
            } else {
                oldest = Math.floorMod(oldest + 1, PLACES);
            }
            return answer;
        }

        int takeBack(Backplane target) {
            if (size == 0) {
                return NOT_POSSIBLE;
            }
            size--;
            target.copyFrom(stateAt(size));
            return size;
        }
    }

    /** The text that is written by and by, and its reader, which stops at a fault. */
    private static final class Pad {
        final int[] signs;
        int length;
        int place;
        int kind;
        final int[] values;

        Pad() {
            signs = new int[PAD_ROOM];
            values = new int[MOST_ORDER_VALUES];
        }

        int append(long characters) {
            int more = charactersIn(characters);
            if (more == 0) {
                return BAD_VALUE;
            }
            if (length + more > PAD_ROOM) {
                return TOO_MANY;
            }
            for (int i = more - 1; i >= 0; i--) {
                signs[length] = (int) (characters >>> (8 * i)) & 255;
                length++;
            }
            return length;
        }

        /** How many characters the number holds; 0 if it holds none or is not well made. */
        private static int charactersIn(long characters) {
            long rest = characters;
            int found = 0;
            while (found < CHARACTERS_AT_ONCE && (rest & 255) != 0) {
                if (!isIn((int) (rest & 255), LOWEST_CHARACTER, HIGHEST_CHARACTER)) {
                    return 0;
                }
                rest >>>= 8;
                found++;
            }
            return rest == 0 ? found : 0;
        }

        int clear() {
            int before = length;
            length = 0;
            return before;
        }

        int faultPlace() {
            startReading();
            // A text has fewer orders than characters, as each order has two at least.
            for (int i = 0; i < PAD_ROOM; i++) {
                if (!readOrder()) {
                    return place;
                }
                if (place == length) {
                    return NONE;
                }
                if (!readSeparator()) {
                    return place;
                }
            }
            return place;
        }

        void startReading() {
            place = 0;
        }

        boolean readSeparator() {
            return readSign(';');
        }

        /** Reads an order into kind and values; if it is faulty, stays at the fault. */
        boolean readOrder() {
            kind = signHere();
            String form = formOf(kind);
            if (form.isEmpty()) {
                return false;
            }
            place++;
            int read = 0;
            for (int i = 0; i < form.length(); i++) {
                char part = form.charAt(i);
                if (part != '#' && part != 'd') {
                    if (!readSign(part)) {
                        return false;
                    }
                } else {
                    int value = part == 'd' ? readDigit() : readNumber();
                    if (value == NONE || read >= MOST_ORDER_VALUES) {
                        return false;
                    }
                    values[read] = value;
                    read++;
                }
            }
            return true;
        }

        /** What follows an order's first character: d for a digit, # for a number, else itself. */
        private static String formOf(int first) {
            switch (first) {
                case 'b': return "#.#";
                case 'i': return "d@d+#";
                case 'o': return "d-#";
                case 'a': return "d";
                case 'w': return "dd";
                case 't': return "#";
                default: return "";
            }
        }

        private int signHere() {
            return place >= 0 && place < length ? signs[place] : NONE;
        }

        private boolean readSign(int sign) {
            if (signHere() != sign) {
                return false;
            }
            place++;
            return true;
        }

        private int readDigit() {
            int sign = signHere();
            if (!isIn(sign, '0', '9')) {
                return NONE;
            }
            place++;
            return sign - '0';
        }

        /** Takes two digits at most, and none behind a 0: what follows then cannot stand there. */
        private int readNumber() {
            int first = readDigit();
            if (first == NONE || first == 0) {
                return first;
            }
            int second = readDigit();
            return second == NONE ? first : 10 * first + second;
        }
    }
}
