import java.util.ArrayDeque;
import java.util.ArrayList;
import java.util.Deque;
import java.util.List;
import java.util.regex.Matcher;
import java.util.regex.Pattern;

/** The document once more, with the library and in its plainest form, for runs of random calls. */
final class Model {
    private static final int[][] RANGES = {{0, 1}, {1, 50}, {1, 9}, {1, 9}, {10, 300}};
    private static final String NUMBER = "(0|[1-9][0-9]?)";
    private static final String[] ORDERS = {
        "b" + NUMBER + "\\." + NUMBER, "i([0-9])@([0-9])\\+" + NUMBER, "o([0-9])-" + NUMBER, "a([0-9])", "w([0-9])([0-9])", "t" + NUMBER};
    private static final Pattern TEXT = Pattern.compile(anyOrder() + "(;" + anyOrder() + ")*");

    private static final class Card {
        int code, current, slot = -6, depth, speed, power, greeted, tooSoon;
        boolean known, asked;

        Card copy() {
            Card c = new Card();
            c.code = code;
            c.current = current;
            c.slot = slot;
            c.depth = depth;
            c.speed = speed;
            c.power = power;
            c.greeted = greeted;
            c.tooSoon = tooSoon;
            c.known = known;
            c.asked = asked;
            return c;
        }
    }

    private static final class Message {
        int from, to, how, hurt, left;

        Message copy() {
            Message m = new Message();
            m.from = from;
            m.to = to;
            m.how = how;
            m.hurt = hurt;
            m.left = left;
            return m;
        }
    }

    private static final class State {
        int[] settings = {1, 20, 3, 2, 120};
        List<Card> cards = new ArrayList<>();
        List<Message> messages = new ArrayList<>();
        int time, plugs;

        State copy() {
            State s = new State();
            s.settings = settings.clone();
            cards.forEach(c -> s.cards.add(c.copy()));
            messages.forEach(m -> s.messages.add(m.copy()));
            s.time = time;
            s.plugs = plugs;
            return s;
        }
    }

    private State now = new State();
    private final Deque<State> history = new ArrayDeque<>();
    private final State[] slots = new State[2];
    private String pad = "";
    private boolean recording = true;

    private int changed(State before, int answer) {
        if (recording) {
            history.addLast(before);
            if (history.size() > 6) {
                history.removeFirst();
            }
        }
        return answer;
    }

    private boolean noBoard(int b) {
        return b < 0 || b >= now.cards.size();
    }

    int set(int setting, int value) {
        if (setting < 0 || setting > 4 || value < RANGES[setting][0] || value > RANGES[setting][1]) {
            return -2;
        }
        State before = now.copy();
        int old = now.settings[setting];
        now.settings[setting] = value;
        return changed(before, old);
    }

    int board(int code, int current) {
        if (code < 0 || code > 99 || current < 1 || current > 60) {
            return -2;
        }
        if (now.cards.size() == 8) {
            return -4;
        }
        State before = now.copy();
        Card card = new Card();
        card.code = code;
        card.current = current;
        now.cards.add(card);
        return changed(before, now.cards.size() - 1);
    }

    private int plugError(int b, int slot, int speed) {
        if (noBoard(b) || slot < 0 || slot > 4) {
            return -1;
        }
        if (speed < 1 || speed > 24) {
            return -2;
        }
        Card card = now.cards.get(b);
        boolean elsewhere = card.slot >= 0 && card.slot != slot;
        boolean taken = now.cards.stream().anyMatch(c -> c != card && c.slot == slot);
        return elsewhere || taken || card.depth == 24 ? -5 : 0;
    }

    int plug(int b, int slot, int speed) {
        int error = plugError(b, slot, speed);
        if (error != 0) {
            return error;
        }
        State before = now.copy();
        Card card = now.cards.get(b);
        card.slot = slot;
        card.speed = speed;
        card.asked = false;
        return changed(before, card.depth);
    }

    int pull(int b, int speed) {
        if (noBoard(b)) {
            return -1;
        }
        if (speed < 1 || speed > 24) {
            return -2;
        }
        if (now.cards.get(b).slot < 0) {
            return -5;
        }
        State before = now.copy();
        now.cards.get(b).speed = -speed;
        return changed(before, now.cards.get(b).depth);
    }

    private static boolean isOpen(Message m) {
        return m.how < 2;
    }

    int ask(int b) {
        if (noBoard(b)) {
            return -1;
        }
        Card card = now.cards.get(b);
        if (!card.known || card.asked) {
            return -5;
        }
        State before = now.copy();
        card.asked = true;
        return changed(before, (int) now.messages.stream().filter(m -> isOpen(m) && (m.from == b || m.to == b)).count());
    }

    int why(int from, int to) {
        if (noBoard(from) || noBoard(to)) {
            return -1;
        }
        if (from == to) {
            return -2;
        }
        Card one = now.cards.get(from);
        Card other = now.cards.get(to);
        return !one.known ? 1 : !other.known ? 2 : one.asked || other.asked ? 3 : 0;
    }

    int send(int from, int to) {
        int why = why(from, to);
        if (why != 0) {
            return why < 0 ? why : -5;
        }
        if (now.messages.stream().filter(Model::isOpen).count() >= 10 || now.messages.size() >= 200) {
            return -4;
        }
        State before = now.copy();
        Message m = new Message();
        m.from = from;
        m.to = to;
        now.messages.add(m);
        return changed(before, now.messages.size() - 1);
    }

    private int counted(int how) {
        return (int) now.messages.stream().filter(m -> m.how == how).count();
    }

    int pass(int ticks) {
        if (ticks < 1 || ticks > 99) {
            return -2;
        }
        if (now.time + ticks > 9999) {
            return -5;
        }
        State before = now.copy();
        int delivered = counted(2);
        for (int i = 0; i < ticks; i++) {
            tick(now);
        }
        return changed(before, counted(2) - delivered);
    }

    private static int drawn(State s) {
        return s.cards.stream().mapToInt(c -> c.current * c.power / 100).sum();
    }

    private static List<Card> bySlots(State s) {
        List<Card> found = new ArrayList<>();
        for (int slot = 0; slot < 5; slot++) {
            for (Card c : s.cards) {
                if (c.slot == slot) {
                    found.add(c);
                }
            }
        }
        return found;
    }

    private static void tick(State s) {
        boolean plug = false;
        for (Card c : bySlots(s)) {
            boolean touched = c.depth >= 14;
            if (c.speed > 0) {
                c.depth = Math.min(24, c.depth + c.speed);
                c.speed = c.depth == 24 ? 0 : c.speed;
            } else if (c.speed < 0) {
                c.depth = Math.max(0, c.depth + c.speed);
                if (c.depth == 0) {
                    c.speed = 0;
                    c.slot = -6;
                    c.power = 0;
                }
            }
            plug |= touched != c.depth >= 14;
        }
        for (Card c : bySlots(s)) {
            if (c.depth < 8) {
                c.power = 0;
            } else if (c.power < 100) {
                int old = c.power;
                c.power = Math.min(100, old + s.settings[1]);
                c.power = drawn(s) > s.settings[4] ? old : c.power;
            }
        }
        for (int b = 0; b < s.cards.size(); b++) {
            greet(s, b);
        }
        bus(s, plug);
        s.plugs += plug ? 1 : 0;
        s.time++;
    }

    private static void greet(State s, int b) {
        Card c = s.cards.get(b);
        if (c.depth >= 20) {
            if (c.power == 100 && !c.known && ++c.greeted >= s.settings[3]) {
                c.known = true;
                c.greeted = 0;
            }
            return;
        }
        c.greeted = 0;
        if (c.known) {
            c.known = false;
            c.tooSoon += c.asked ? 0 : 1;
            c.asked = false;
            for (Message m : s.messages) {
                if (isOpen(m) && (m.from == b || m.to == b)) {
                    m.how = 3;
                    m.left = 0;
                }
            }
        }
    }

    private static void bus(State s, boolean plug) {
        for (Message m : s.messages) {
            if (m.how == 1 && plug) {
                m.hurt++;
                m.how = m.hurt == 3 ? 3 : 1;
                m.left = m.hurt == 3 ? 0 : s.settings[2];
            } else if (m.how == 1 && --m.left == 0) {
                m.how = 2;
            }
        }
        boolean isFree = s.messages.stream().noneMatch(m -> m.how == 1);
        if (isFree && held(s) == 0) {
            for (Message m : s.messages) {
                if (m.how == 0 && s.cards.get(m.from).known && s.cards.get(m.to).known) {
                    m.how = 1;
                    m.left = s.settings[2];
                    return;
                }
            }
        }
    }

    private static int held(State s) {
        for (Card c : s.cards) {
            boolean touches = c.speed > 0 && c.depth >= 8 && c.depth <= 13;
            boolean parts = c.speed < 0 && c.depth >= 14;
            if (s.settings[0] == 1 && (touches || parts)) {
                return 1;
            }
        }
        return 0;
    }

    int of(int b, int what) {
        if (noBoard(b)) {
            return -1;
        }
        if (what < 0 || what > 10) {
            return -2;
        }
        Card c = now.cards.get(b);
        int sent = (int) now.messages.stream().filter(m -> m.from == b && m.how == 2).count();
        return new int[] {c.code, c.current, c.slot, c.depth, 100 + c.speed, c.power, c.known ? 1 : 0, c.asked ? 1 : 0,
            c.greeted, sent, c.tooSoon}[what];
    }

    int slot(int slot) {
        if (slot < 0 || slot > 4) {
            return -1;
        }
        for (int b = 0; b < now.cards.size(); b++) {
            if (now.cards.get(b).slot == slot) {
                return b;
            }
        }
        return -6;
    }

    int word(int w, int what) {
        if (w < 0 || w >= now.messages.size()) {
            return -1;
        }
        if (what < 0 || what > 4) {
            return -2;
        }
        Message m = now.messages.get(w);
        return new int[] {m.from, m.to, m.how, m.hurt, m.left}[what];
    }

    int waiting(int rank) {
        int left = rank;
        for (int w = 0; w < now.messages.size() && rank >= 0; w++) {
            if (now.messages.get(w).how == 0 && left-- == 0) {
                return w;
            }
        }
        return -1;
    }

    int count(int what) {
        if (what < 0 || what > 19) {
            return -2;
        }
        int all = 0, plugged = 0, known = 0, onBus = -6, hurts = 0, tooSoon = 0;
        for (int b = 0; b < now.cards.size(); b++) {
            Card c = now.cards.get(b);
            all += 1 << b;
            plugged += c.slot < 0 ? 0 : 1 << b;
            known += c.known ? 1 << b : 0;
            tooSoon += c.tooSoon;
        }
        for (int w = 0; w < now.messages.size(); w++) {
            onBus = now.messages.get(w).how == 1 ? w : onBus;
            hurts += now.messages.get(w).hurt;
        }
        int[] s = now.settings;
        return new int[] {now.time, all, plugged, known, now.messages.size(), counted(2), counted(3), onBus, held(now),
            drawn(now), now.plugs, hurts, tooSoon, s[0], s[1], s[2], s[3], s[4], pad.length(), history.size()}[what];
    }

    int known(int code) {
        if (code < 0 || code > 99) {
            return -2;
        }
        for (int b = 0; b < now.cards.size(); b++) {
            if (now.cards.get(b).known && now.cards.get(b).code == code) {
                return b;
            }
        }
        return -6;
    }

    int knownIn(int b) {
        if (noBoard(b)) {
            return -1;
        }
        if (now.cards.get(b).slot < 0) {
            return -5;
        }
        State s = now.copy();
        for (int ticks = 0; ticks <= 200; ticks++) {
            if (s.cards.get(b).known) {
                return ticks;
            }
            tick(s);
        }
        return -6;
    }

    int wouldHurt(int b, int slot, int speed) {
        int error = plugError(b, slot, speed);
        if (error != 0) {
            return error;
        }
        State s = now.copy();
        s.cards.get(b).slot = slot;
        s.cards.get(b).speed = speed;
        do {
            tick(s);
        } while (s.cards.get(b).depth < 24);
        int before = now.messages.stream().mapToInt(m -> m.hurt).sum();
        return s.messages.stream().mapToInt(m -> m.hurt).sum() - before;
    }

    int safeSpeed(int b, int slot) {
        int error = plugError(b, slot, 1);
        if (error != 0) {
            return error;
        }
        int best = -6;
        for (int speed = 1; speed <= 24; speed++) {
            best = wouldHurt(b, slot, speed) == 0 ? speed : best;
        }
        return best;
    }

    int quietIn() {
        State s = now.copy();
        for (int ticks = 0; ticks <= 200; ticks++) {
            if (s.messages.stream().noneMatch(Model::isOpen)) {
                return ticks;
            }
            tick(s);
        }
        return -6;
    }

    int put(long characters) {
        StringBuilder more = new StringBuilder();
        long rest = characters;
        while (rest != 0) {
            int code = (int) (rest & 0xff);
            if (code < 33 || code > 126) {
                return -2;
            }
            more.insert(0, (char) code);
            rest >>>= 8;
        }
        if (more.length() == 0) {
            return -2;
        }
        if (pad.length() + more.length() > 80) {
            return -4;
        }
        pad += more;
        return pad.length();
    }

    int wipe() {
        int length = pad.length();
        pad = "";
        return length;
    }

    private static String anyOrder() {
        return "(" + String.join("|", ORDERS) + ")";
    }

    /** The longest start of the pad that some text begins with; the matcher tells by hitEnd(). */
    int fault() {
        if (TEXT.matcher(pad).matches()) {
            return -6;
        }
        for (int length = 1; length <= pad.length(); length++) {
            Matcher matcher = TEXT.matcher(pad.substring(0, length));
            if (!matcher.matches() && !matcher.hitEnd()) {
                return length - 1;
            }
        }
        return pad.length();
    }

    int carryOut() {
        if (fault() != -6) {
            return -3;
        }
        State before = now.copy();
        recording = false;
        int done = 0;
        for (String order : pad.split(";")) {
            if (carryOutOrder(order) < 0) {
                break;
            }
            done++;
        }
        recording = true;
        pad = "";
        return changed(before, done);
    }

    private int carryOutOrder(String order) {
        int[] n = new int[3];
        for (String form : ORDERS) {
            Matcher matcher = Pattern.compile(form).matcher(order);
            if (matcher.matches()) {
                for (int i = 0; i < matcher.groupCount(); i++) {
                    n[i] = Integer.parseInt(matcher.group(i + 1));
                }
            }
        }
        return switch (order.charAt(0)) {
            case 'b' -> board(n[0], n[1]);
            case 'i' -> plug(n[0], n[1], n[2]);
            case 'o' -> pull(n[0], n[1]);
            case 'a' -> ask(n[0]);
            case 'w' -> send(n[0], n[1]);
            default -> pass(n[0]);
        };
    }

    int undo() {
        if (history.isEmpty()) {
            return -5;
        }
        now = history.removeLast();
        return history.size();
    }

    int save(int slot) {
        if (slot < 0 || slot > 1) {
            return -2;
        }
        slots[slot] = now.copy();
        return now.cards.size();
    }

    int restore(int slot) {
        if (slot < 0 || slot > 1) {
            return -2;
        }
        if (slots[slot] == null) {
            return -5;
        }
        State before = now;
        now = slots[slot].copy();
        return changed(before, now.cards.size());
    }
}
