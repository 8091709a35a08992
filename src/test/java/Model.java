import java.util.ArrayDeque;
import java.util.ArrayList;
import java.util.Comparator;
import java.util.Deque;
import java.util.List;
import java.util.TreeMap;
import java.util.regex.Matcher;
import java.util.regex.Pattern;

/**
 * The document told a second time, by other means than the class: lists, maps, a log of moves, absolute times
 * and a regular expression. ModelTest compares both.
 */
final class Model {
    static final int UNKNOWN = -1;
    static final int BAD_VALUE = -2;
    static final int NOT_POSSIBLE = -3;
    static final int NONE = -4;

    private static final String FRAME = "([1-9][0-9]?)>(\\*|[1-9][0-9]?)(?:!([0-3]))?@([0-7])";
    private static final Pattern ONE = Pattern.compile(FRAME);
    private static final Pattern TEXT = Pattern.compile(FRAME + "(?:;" + FRAME + ")*");

    private record Frame(int source, int destination, int priority, int number) { }
    private record Entry(int port, int time) { }
    private record Move(int address, int second) { }
    private record Arrival(int port, Frame frame) { }

    private static final class World {
        int[] settings = {60, 30, 10, 4};
        boolean[] up = {true, true, true, true, true, true, true, true};
        int[] quarantineEnd = new int[8];
        int[] reason = new int[8];
        Integer[] cable = new Integer[8];
        int[] floods = new int[8];
        int[][] accounts = new int[8][11];
        List<List<Frame>> queues = new ArrayList<>();
        TreeMap<Integer, Entry> table = new TreeMap<>();
        List<Move> moves = new ArrayList<>();
        int clock = 0;
        int next = 0;
        int begun = 0;

        World() {
            for (int k = 0; k < 8; k++) {
                queues.add(new ArrayList<>());
            }
        }

        World copy() {
            World w = new World();
            w.settings = settings.clone();
            w.up = up.clone();
            w.quarantineEnd = quarantineEnd.clone();
            w.reason = reason.clone();
            w.cable = cable.clone();
            w.floods = floods.clone();
            for (int k = 0; k < 8; k++) {
                w.accounts[k] = accounts[k].clone();
                w.queues.set(k, new ArrayList<>(queues.get(k)));
            }
            w.table = new TreeMap<>(table);
            w.moves = new ArrayList<>(moves);
            w.clock = clock;
            w.next = next;
            w.begun = begun;
            return w;
        }

        boolean open(int port) {
            return up[port] && quarantineEnd[port] <= clock;
        }

        int movesOf(int address) {
            int n = 0;
            for (Move m : moves) {
                if (m.address() == address && m.second() > clock - 10) {
                    n++;
                }
            }
            return n;
        }

        List<Frame> order(int port) {
            List<Frame> sorted = new ArrayList<>(queues.get(port));
            sorted.sort(Comparator.comparingInt((Frame f) -> -f.priority()).thenComparingInt(Frame::number));
            return sorted;
        }

        /** The fate in [0], the set of ports of which it went out in [1]. */
        int[] comeIn(int port, Frame f) {
            int[] fate = steps(port, f);
            int[] account = {1, 2, 3, 4, 5, 5, 6};
            accounts[port][0]++;
            accounts[port][account[fate[0]]]++;
            return fate;
        }

        private int[] steps(int port, Frame f) {
            if (!open(port)) {
                return new int[] {0, 0};
            }
            Entry known = table.get(f.source());
            if (known != null && known.port() != port) {
                table.put(f.source(), new Entry(port, clock));
                moves.add(new Move(f.source(), clock));
                if (movesOf(f.source()) >= 3) {
                    quarantine(port, 1);
                    return new int[] {4, 0};
                }
            } else if (known != null) {
                table.put(f.source(), new Entry(port, clock));
            } else {
                if (table.size() == 20) {
                    int victim = table.keySet().stream()
                            .min(Comparator.comparingInt((Integer a) -> table.get(a).time()).thenComparingInt(a -> a))
                            .get();
                    table.remove(victim);
                }
                table.put(f.source(), new Entry(port, clock));
            }
            Entry to = f.destination() == 0 ? null : table.get(f.destination());
            if (to != null) {
                if (to.port() == port) {
                    return new int[] {1, 0};
                }
                if (open(to.port())) {
                    out(to.port(), f);
                    return new int[] {2, 1 << to.port()};
                }
                return new int[] {6, 0};
            }
            if (floods[port] >= settings[2]) {
                quarantine(port, 2);
                return new int[] {5, 0};
            }
            floods[port]++;
            int set = 0;
            for (int k = 0; k < 8; k++) {
                if (k != port && open(k)) {
                    out(k, f);
                    set += 1 << k;
                }
            }
            return new int[] {3, set};
        }

        private void quarantine(int port, int why) {
            quarantineEnd[port] = clock + settings[1];
            reason[port] = why;
            begun++;
            table.values().removeIf(e -> e.port() == port);
        }

        private void out(int port, Frame f) {
            if (queues.get(port).size() == 12) {
                accounts[port][8]++;
            } else {
                queues.get(port).add(new Frame(f.source(), f.destination(), f.priority(), next++));
                accounts[port][7]++;
            }
        }

        int second() {
            List<Arrival> way = new ArrayList<>();
            int sent = 0;
            for (int k = 0; k < 8; k++) {
                for (int n = 0; open(k) && n < settings[3] && !queues.get(k).isEmpty(); n++) {
                    Frame f = order(k).get(0);
                    queues.get(k).remove(f);
                    sent++;
                    accounts[k][9]++;
                    if (cable[k] == null) {
                        accounts[k][10]++;
                    } else {
                        way.add(new Arrival(cable[k], f));
                    }
                }
            }
            for (Arrival a : way) {
                comeIn(a.port(), a.frame());
            }
            clock++;
            table.values().removeIf(e -> clock - e.time() >= settings[0]);
            floods = new int[8];
            return sent;
        }

        int openPorts() {
            int n = 0;
            for (int k = 0; k < 8; k++) {
                n += open(k) ? 1 : 0;
            }
            return n;
        }

        int cables() {
            int n = 0;
            for (int k = 0; k < 8; k++) {
                n += cable[k] != null && cable[k] > k ? 1 : 0;
            }
            return n;
        }
    }

    private World w = new World();
    private World kept = null;
    private final Deque<World> past = new ArrayDeque<>();
    private String text = "";

    private void record() {
        past.addLast(w.copy());
        if (past.size() > 4) {
            past.removeFirst();
        }
    }

    private static boolean outside(int value, int least, int most) {
        return value < least || value > most;
    }

    int setPort(int port, boolean up) {
        if (outside(port, 0, 7)) {
            return UNKNOWN;
        }
        if (w.up[port] == up) {
            return NONE;
        }
        record();
        w.up[port] = up;
        if (!up) {
            w.accounts[port][8] += w.queues.get(port).size();
            w.queues.get(port).clear();
        }
        return w.openPorts();
    }

    int join(int port, int other) {
        if (outside(port, 0, 7) || outside(other, 0, 7)) {
            return UNKNOWN;
        }
        if (port == other) {
            return BAD_VALUE;
        }
        if (w.cable[port] != null || w.cable[other] != null) {
            return NOT_POSSIBLE;
        }
        record();
        w.cable[port] = other;
        w.cable[other] = port;
        return w.cables();
    }

    int part(int port) {
        if (outside(port, 0, 7)) {
            return UNKNOWN;
        }
        if (w.cable[port] == null) {
            return NONE;
        }
        record();
        int other = w.cable[port];
        w.cable[port] = null;
        w.cable[other] = null;
        return other;
    }

    int release(int port) {
        if (outside(port, 0, 7)) {
            return UNKNOWN;
        }
        if (w.quarantineEnd[port] <= w.clock) {
            return NONE;
        }
        record();
        int left = w.quarantineEnd[port] - w.clock;
        w.quarantineEnd[port] = 0;
        return left;
    }

    int set(int what, int value) {
        int[] most = {1000, 600, 50, 10};
        if (outside(what, 0, 3) || outside(value, 1, most[what])) {
            return BAD_VALUE;
        }
        if (w.settings[what] == value) {
            return NONE;
        }
        record();
        int previous = w.settings[what];
        w.settings[what] = value;
        return previous;
    }

    int frame(int port, int source, int destination, int priority) {
        if (outside(port, 0, 7)) {
            return UNKNOWN;
        }
        if (outside(source, 1, 99) || outside(destination, 0, 99) || outside(priority, 0, 3)) {
            return BAD_VALUE;
        }
        record();
        return w.comeIn(port, new Frame(source, destination, priority, 0))[0];
    }

    int forget(int address) {
        if (outside(address, 1, 99)) {
            return BAD_VALUE;
        }
        if (!w.table.containsKey(address)) {
            return NONE;
        }
        record();
        return w.table.remove(address).port();
    }

    int pass(int seconds) {
        if (outside(seconds, 1, 10)) {
            return BAD_VALUE;
        }
        record();
        int sent = 0;
        for (int k = 0; k < seconds; k++) {
            sent += w.second();
        }
        return sent;
    }

    int type(char character) {
        if (text.length() == 70) {
            return NOT_POSSIBLE;
        }
        text += character;
        return text.length();
    }

    int clearText() {
        int length = text.length();
        text = "";
        return length;
    }

    /** The first index up to which the text can't be the beginning of a text of frames. */
    private int fault() {
        for (int end = 1; end <= text.length(); end++) {
            Matcher beginning = TEXT.matcher(text.substring(0, end));
            if (!beginning.matches() && !beginning.hitEnd()) {
                return end - 1;
            }
        }
        return TEXT.matcher(text).matches() ? -1 : text.length();
    }

    int readFrames() {
        if (fault() >= 0) {
            return -100 - fault();
        }
        record();
        int taken = 0;
        Matcher one = ONE.matcher(text);
        while (one.find()) {
            int destination = one.group(2).equals("*") ? 0 : Integer.parseInt(one.group(2));
            int priority = one.group(3) == null ? 0 : Integer.parseInt(one.group(3));
            Frame f = new Frame(Integer.parseInt(one.group(1)), destination, priority, 0);
            taken += w.comeIn(Integer.parseInt(one.group(4)), f)[0] == 0 ? 0 : 1;
        }
        return taken;
    }

    int undo() {
        if (past.isEmpty()) {
            return NONE;
        }
        w = past.removeLast();
        return past.size();
    }

    int keep() {
        kept = w.copy();
        return w.clock;
    }

    int restore() {
        if (kept == null) {
            return NONE;
        }
        record();
        w = kept.copy();
        return w.clock;
    }

    int port(int port, int what) {
        if (outside(port, 0, 7)) {
            return UNKNOWN;
        }
        return switch (what) {
            case 0 -> w.up[port] ? 1 : 0;
            case 1 -> w.open(port) ? 1 : 0;
            case 2 -> Math.max(0, w.quarantineEnd[port] - w.clock);
            case 3 -> w.reason[port];
            case 4 -> w.cable[port] == null ? NONE : w.cable[port];
            case 5 -> w.queues.get(port).size();
            case 6 -> (int) w.table.values().stream().filter(e -> e.port() == port).count();
            case 7 -> w.floods[port];
            default -> BAD_VALUE;
        };
    }

    int account(int port, int what) {
        if (outside(port, 0, 7)) {
            return UNKNOWN;
        }
        return outside(what, 0, 10) ? BAD_VALUE : w.accounts[port][what];
    }

    int entry(int entry, int what) {
        if (entry < 0 || outside(what, 0, 3)) {
            return BAD_VALUE;
        }
        if (entry >= w.table.size()) {
            return NONE;
        }
        int address = new ArrayList<>(w.table.keySet()).get(entry);
        Entry found = w.table.get(address);
        return switch (what) {
            case 0 -> address;
            case 1 -> found.port();
            case 2 -> w.clock - found.time();
            default -> w.movesOf(address);
        };
    }

    int where(int address) {
        if (outside(address, 1, 99)) {
            return BAD_VALUE;
        }
        return w.table.containsKey(address) ? w.table.get(address).port() : NONE;
    }

    int queued(int port, int place, int what) {
        if (outside(port, 0, 7)) {
            return UNKNOWN;
        }
        if (place < 0 || outside(what, 0, 3)) {
            return BAD_VALUE;
        }
        if (place >= w.queues.get(port).size()) {
            return NONE;
        }
        Frame f = w.order(port).get(place);
        return new int[] {f.source(), f.destination(), f.priority(), f.number()}[what];
    }

    int wouldGo(int port, int source, int destination) {
        if (outside(port, 0, 7)) {
            return UNKNOWN;
        }
        if (outside(source, 1, 99) || outside(destination, 0, 99)) {
            return BAD_VALUE;
        }
        return w.copy().comeIn(port, new Frame(source, destination, 0, 0))[1];
    }

    int loops() {
        int set = 0;
        for (int k = 0; k < 8; k++) {
            if (w.cable[k] != null && w.open(k) && w.open(w.cable[k])) {
                set += 1 << k;
            }
        }
        return set;
    }

    int count(int what) {
        int sum = 0;
        for (int k = 0; k < 8; k++) {
            sum += what == 7 && w.quarantineEnd[k] > w.clock ? 1 : 0;
            sum += what == 9 ? w.queues.get(k).size() : 0;
            sum += what == 10 ? w.accounts[k][0] : 0;
        }
        return switch (what) {
            case 0, 1, 2, 3 -> w.settings[what];
            case 4 -> w.clock;
            case 5 -> w.table.size();
            case 6 -> w.openPorts();
            case 7, 9, 10 -> sum;
            case 8 -> w.cables();
            case 11 -> w.begun;
            case 12 -> w.next;
            case 13 -> past.size();
            case 14 -> text.length();
            default -> BAD_VALUE;
        };
    }
}
