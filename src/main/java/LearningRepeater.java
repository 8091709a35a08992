import java.util.Arrays;

/** A repeater that learns on which of its ports addresses are. What it must do is said in the document. */
public final class LearningRepeater {
    /** There is no such port. */
    public static final int UNKNOWN = -1;
    /** Another argument is out of range. */
    public static final int BAD_VALUE = -2;
    /** This is not possible. */
    public static final int NOT_POSSIBLE = -3;
    /** There is no such thing; not an error. */
    public static final int NONE = -4;

    private static final int PORTS = 8;
    private static final int PLACES = 12;
    private static final int ENTRIES = 20;
    private static final int STATES = 4;
    private static final int SIGNS = 70;
    private static final int LAST_ADDRESS = 99;
    private static final int LAST_PRIORITY = 3;
    private static final int MOST_SECONDS = 10;
    private static final int MOVE_SECONDS = 10;
    private static final int TOO_MANY_MOVES = 3;

    private static final int AGE = 0;
    private static final int QUARANTINE = 1;
    private static final int FLOODS = 2;
    private static final int RATE = 3;
    private static final int[] FIRST_SETTINGS = {60, 30, 10, 4};
    private static final int[] GREATEST_SETTINGS = {1000, 600, 50, 10};

    private static final int TURNED_AWAY = 0;
    private static final int FILTERED = 1;
    private static final int ONE_PORT = 2;
    private static final int FLOOD = 3;
    private static final int CUT_FOR_MOVES = 4;
    private static final int CUT_FOR_STORM = 5;
    private static final int DEAD_END = 6;

    private static final int FOR_MOVES = 1;
    private static final int FOR_STORM = 2;

    private static final int CAME_IN = 0;
    private static final int CUT = 5;
    private static final int CAME_TO_DEAD_END = 6;
    private static final int PUT_IN_QUEUE = 7;
    private static final int DROPPED = 8;
    private static final int SENT = 9;
    private static final int DELIVERED = 10;
    private static final int ACCOUNTS = 11;

    private static final int SOURCE = 0;
    private static final int DESTINATION = 1;
    private static final int PRIORITY = 2;
    // A frame has a number only in a queue, and a port at which it comes in only outside of one.
    private static final int NUMBER = 3;
    private static final int INLET = 3;
    private static final int PARTS = 4;

    private static final int FAULT_BASE = -100;
    private static final int NO_FAULT = -1;

    private final State present;
    private final State snapshot;
    private final State imagined;
    private final History history;
    private final Text text;
    private final Arrivals arrivals;
    private boolean hasSnapshot;

    public LearningRepeater() {
        present = new State();
        snapshot = new State();
        imagined = new State();
        history = new History();
        text = new Text();
        arrivals = new Arrivals();
    }

    // ---- ports and cables

    public int setPort(int port, boolean up) {
        if (!isPort(port)) {
            return UNKNOWN;
        }
        if (present.ports.isUp(port) == up) {
            return NONE;
        }
        history.record(present);
        present.ports.turn(port, up);
        if (!up) {
            present.dropQueue(port);
        }
        return Integer.bitCount(present.ports.openOnes());
    }

    public int join(int port, int other) {
        if (!isPort(port) || !isPort(other)) {
            return UNKNOWN;
        }
        if (port == other) {
            return BAD_VALUE;
        }
        if (present.ports.farEnd(port) != NONE || present.ports.farEnd(other) != NONE) {
            return NOT_POSSIBLE;
        }
        history.record(present);
        present.ports.tie(port, other);
        return present.ports.cables();
    }

    public int part(int port) {
        if (!isPort(port)) {
            return UNKNOWN;
        }
        int other = present.ports.farEnd(port);
        if (other == NONE) {
            return NONE;
        }
        history.record(present);
        present.ports.untie(port, other);
        return other;
    }

    public int release(int port) {
        if (!isPort(port)) {
            return UNKNOWN;
        }
        int left = present.ports.secondsLeft(port);
        if (left == 0) {
            return NONE;
        }
        history.record(present);
        present.ports.endQuarantine(port);
        return left;
    }

    public int set(int what, int value) {
        if (!isSetting(what) || value < 1 || value > GREATEST_SETTINGS[what]) {
            return BAD_VALUE;
        }
        int previous = present.settings.at(what);
        if (previous == value) {
            return NONE;
        }
        history.record(present);
        present.settings.put(what, value);
        return previous;
    }

    // ---- frames

    public int frame(int port, int source, int destination, int priority) {
        if (!isPort(port)) {
            return UNKNOWN;
        }
        if (!isAddress(source) || !isDestination(destination) || priority < 0 || priority > LAST_PRIORITY) {
            return BAD_VALUE;
        }
        history.record(present);
        return present.comeIn(port, source, destination, priority);
    }

    public int forget(int address) {
        if (!isAddress(address)) {
            return BAD_VALUE;
        }
        int port = present.table.portOf(address);
        if (port == NONE) {
            return NONE;
        }
        history.record(present);
        present.table.remove(address);
        return port;
    }

    public int pass(int seconds) {
        if (seconds < 1 || seconds > MOST_SECONDS) {
            return BAD_VALUE;
        }
        history.record(present);
        int sent = 0;
        for (int second = 0; second < seconds; second++) {
            sent += present.sendInto(arrivals);
            present.letIn(arrivals);
            present.endSecond();
        }
        return sent;
    }

    // ---- texts

    public int type(char character) {
        return text.append(character) ? text.length : NOT_POSSIBLE;
    }

    public int clearText() {
        int length = text.length;
        text.length = 0;
        return length;
    }

    public int readFrames() {
        int fault = text.readInto(arrivals);
        if (fault != NO_FAULT) {
            return FAULT_BASE - fault;
        }
        history.record(present);
        return present.letIn(arrivals);
    }

    // ---- history

    public int undo() {
        return history.takeBack(present) ? history.size : NONE;
    }

    public int keep() {
        snapshot.copyFrom(present);
        hasSnapshot = true;
        return present.clock;
    }

    public int restore() {
        if (!hasSnapshot) {
            return NONE;
        }
        history.record(present);
        present.copyFrom(snapshot);
        return present.clock;
    }

    // ---- what is told

    public int port(int port, int what) {
        if (!isPort(port)) {
            return UNKNOWN;
        }
        switch (what) {
            case 0:
                return present.ports.isUp(port) ? 1 : 0;
            case 1:
                return present.ports.isOpen(port) ? 1 : 0;
            case 2:
                return present.ports.secondsLeft(port);
            case 3:
                return present.ports.reasons.at(port);
            case 4:
                return present.ports.farEnd(port);
            case 5:
                return present.queues.sizes.at(port);
            case 6:
                return present.table.entriesWith(port);
            case 7:
                return present.ports.floods.at(port);
            default:
                return BAD_VALUE;
        }
    }

    public int account(int port, int what) {
        if (!isPort(port)) {
            return UNKNOWN;
        }
        if (what < 0 || what >= ACCOUNTS) {
            return BAD_VALUE;
        }
        return present.ports.credited(port, what);
    }

    public int entry(int entry, int what) {
        if (entry < 0 || what < 0 || what > 3) {
            return BAD_VALUE;
        }
        if (entry >= present.table.size) {
            return NONE;
        }
        int address = present.table.addressOf(entry);
        switch (what) {
            case 0:
                return address;
            case 1:
                return present.table.portOf(address);
            case 2:
                return present.clock - present.table.times.at(address);
            default:
                return present.moves.latelyOf(address);
        }
    }

    public int where(int address) {
        if (!isAddress(address)) {
            return BAD_VALUE;
        }
        return present.table.portOf(address);
    }

    public int queued(int port, int place, int what) {
        if (!isPort(port)) {
            return UNKNOWN;
        }
        if (place < 0 || what < 0 || what >= PARTS) {
            return BAD_VALUE;
        }
        if (place >= present.queues.sizes.at(port)) {
            return NONE;
        }
        return present.queues.partOf(port, place, what);
    }

    public int wouldGo(int port, int source, int destination) {
        if (!isPort(port)) {
            return UNKNOWN;
        }
        if (!isAddress(source) || !isDestination(destination)) {
            return BAD_VALUE;
        }
        // The frame meets a copy, so that all steps are taken and nothing changes.
        imagined.copyFrom(present);
        int fate = imagined.learnAndDecide(port, source, destination);
        return imagined.waysOut(fate, port, destination);
    }

    public int loops() {
        int open = present.ports.openOnes();
        int found = 0;
        for (int port = 0; port < PORTS; port++) {
            int other = present.ports.farEnd(port);
            if (other != NONE && (open >> port & 1) == 1 && (open >> other & 1) == 1) {
                found |= 1 << port;
            }
        }
        return found;
    }

    public int count(int what) {
        switch (what) {
            case AGE:
            case QUARANTINE:
            case FLOODS:
            case RATE:
                return present.settings.at(what);
            case 4:
                return present.clock;
            case 5:
                return present.table.size;
            case 6:
                return Integer.bitCount(present.ports.openOnes());
            case 7:
                return present.ports.quarantined();
            case 8:
                return present.ports.cables();
            case 9:
                return present.queues.sizes.sum();
            case 10:
                return present.ports.allCameIn();
            case 11:
                return present.quarantinesBegun;
            case 12:
                return present.nextNumber;
            case 13:
                return history.size;
            case 14:
                return text.length;
            default:
                return BAD_VALUE;
        }
    }

    private static boolean isPort(int port) {
        return port >= 0 && port < PORTS;
    }

    private static boolean isAddress(int address) {
        return address >= 1 && address <= LAST_ADDRESS;
    }

    private static boolean isDestination(int destination) {
        return destination == 0 || isAddress(destination);
    }

    private static boolean isSetting(int what) {
        return what >= 0 && what < GREATEST_SETTINGS.length;
    }

    /** A row of numbers; what lies outside of it reads as 0 and is not written, so that no index can throw. */
    private static final class Row {
        private final int[] cells;

        Row(int length) {
            cells = new int[Math.max(length, 0)];
        }

        int at(int index) {
            return index >= 0 && index < cells.length ? cells[index] : 0;
        }

        void put(int index, int value) {
            if (index >= 0 && index < cells.length) {
                cells[index] = value;
            }
        }

        void add(int index, int amount) {
            if (index >= 0 && index < cells.length) {
                cells[index] += amount;
            }
        }

        int sum() {
            int sum = 0;
            for (int cell : cells) {
                sum += cell;
            }
            return sum;
        }

        void fill(int from, int length, int value) {
            if (fits(from, length)) {
                Arrays.fill(cells, from, from + length, value);
            }
        }

        void slide(int from, int to, int length) {
            if (fits(from, length) && fits(to, length)) {
                System.arraycopy(cells, from, cells, to, length);
            }
        }

        private boolean fits(int from, int length) {
            return from >= 0 && length >= 0 && from <= cells.length - length;
        }

        void copyFrom(Row other) {
            System.arraycopy(other.cells, 0, cells, 0, Math.min(cells.length, other.cells.length));
        }
    }

    /** What is known of each port, but for its queue. */
    private static final class Ports {
        private final Row ups = new Row(PORTS);
        private final Row lefts = new Row(PORTS);
        private final Row reasons = new Row(PORTS);
        private final Row farEnds = new Row(PORTS);
        private final Row floods = new Row(PORTS);
        private final Row credits = new Row(PORTS * ACCOUNTS);

        Ports() {
            ups.fill(0, PORTS, 1);
            farEnds.fill(0, PORTS, NONE);
        }

        void copyFrom(Ports other) {
            ups.copyFrom(other.ups);
            lefts.copyFrom(other.lefts);
            reasons.copyFrom(other.reasons);
            farEnds.copyFrom(other.farEnds);
            floods.copyFrom(other.floods);
            credits.copyFrom(other.credits);
        }

        boolean isUp(int port) {
            return ups.at(port) == 1;
        }

        boolean isOpen(int port) {
            return ups.at(port) == 1 && lefts.at(port) == 0;
        }

        void turn(int port, boolean up) {
            ups.put(port, up ? 1 : 0);
        }

        /** The open ports, the bit k for the port k. */
        int openOnes() {
            int found = 0;
            for (int port = 0; port < PORTS; port++) {
                if (isOpen(port)) {
                    found |= 1 << port;
                }
            }
            return found;
        }

        int secondsLeft(int port) {
            return lefts.at(port);
        }

        void beginQuarantine(int port, int seconds, int reason) {
            lefts.put(port, seconds);
            reasons.put(port, reason);
        }

        void endQuarantine(int port) {
            lefts.put(port, 0);
        }

        int quarantined() {
            int found = 0;
            for (int port = 0; port < PORTS; port++) {
                if (lefts.at(port) > 0) {
                    found++;
                }
            }
            return found;
        }

        int farEnd(int port) {
            return farEnds.at(port);
        }

        void tie(int port, int other) {
            farEnds.put(port, other);
            farEnds.put(other, port);
        }

        void untie(int port, int other) {
            farEnds.put(port, NONE);
            farEnds.put(other, NONE);
        }

        int cables() {
            int ends = 0;
            for (int port = 0; port < PORTS; port++) {
                if (farEnds.at(port) != NONE) {
                    ends++;
                }
            }
            return ends / 2;
        }

        void credit(int port, int what, int amount) {
            credits.add(port * ACCOUNTS + what, amount);
        }

        int credited(int port, int what) {
            return credits.at(port * ACCOUNTS + what);
        }

        int allCameIn() {
            int sum = 0;
            for (int port = 0; port < PORTS; port++) {
                sum += credited(port, CAME_IN);
            }
            return sum;
        }

        void endSecond() {
            for (int port = 0; port < PORTS; port++) {
                if (lefts.at(port) > 0) {
                    lefts.add(port, -1);
                }
            }
            floods.fill(0, PORTS, 0);
        }
    }

    /** The queues of all ports, each in the order in which its frames would be sent. */
    private static final class Queues {
        private final Row sizes = new Row(PORTS);
        private final Row parts = new Row(PORTS * PLACES * PARTS);

        void copyFrom(Queues other) {
            sizes.copyFrom(other.sizes);
            parts.copyFrom(other.parts);
        }

        private static int cellOf(int port, int place) {
            return (port * PLACES + place) * PARTS;
        }

        int partOf(int port, int place, int what) {
            return parts.at(cellOf(port, place) + what);
        }

        boolean isFull(int port) {
            return sizes.at(port) >= PLACES;
        }

        /** The number is greater than all before it: so its place is behind all of its priority. */
        void insert(int port, int source, int destination, int priority, int number) {
            int size = sizes.at(port);
            int place = size;
            while (place > 0 && partOf(port, place - 1, PRIORITY) < priority) {
                place--;
            }
            int cell = cellOf(port, place);
            parts.slide(cell, cell + PARTS, (size - place) * PARTS);
            parts.put(cell + SOURCE, source);
            parts.put(cell + DESTINATION, destination);
            parts.put(cell + PRIORITY, priority);
            parts.put(cell + NUMBER, number);
            sizes.put(port, size + 1);
        }

        void removeFirst(int port, int frames) {
            int rest = sizes.at(port) - frames;
            parts.slide(cellOf(port, frames), cellOf(port, 0), rest * PARTS);
            sizes.put(port, rest);
        }
    }

    /** The entries, each at the cell of its address: so they are in the order of their addresses. */
    private static final class Table {
        private final Row ports = new Row(LAST_ADDRESS + 1);
        private final Row times = new Row(LAST_ADDRESS + 1);
        private int size;

        Table() {
            ports.fill(0, LAST_ADDRESS + 1, NONE);
        }

        void copyFrom(Table other) {
            ports.copyFrom(other.ports);
            times.copyFrom(other.times);
            size = other.size;
        }

        int portOf(int address) {
            return ports.at(address);
        }

        void learn(int address, int port, int time) {
            if (ports.at(address) == NONE) {
                if (size >= ENTRIES) {
                    remove(oldest());
                }
                size++;
            }
            ports.put(address, port);
            times.put(address, time);
        }

        void remove(int address) {
            ports.put(address, NONE);
            size--;
        }

        private int oldest() {
            int found = 0;
            for (int address = 1; address <= LAST_ADDRESS; address++) {
                if (ports.at(address) != NONE && (found == 0 || times.at(address) < times.at(found))) {
                    found = address;
                }
            }
            return found;
        }

        void removeAllWith(int port) {
            for (int address = 1; address <= LAST_ADDRESS; address++) {
                if (ports.at(address) == port) {
                    ports.put(address, NONE);
                    size--;
                }
            }
        }

        void removeUntil(int time) {
            for (int address = 1; address <= LAST_ADDRESS; address++) {
                if (ports.at(address) != NONE && times.at(address) <= time) {
                    remove(address);
                }
            }
        }

        int entriesWith(int port) {
            int found = 0;
            for (int address = 1; address <= LAST_ADDRESS; address++) {
                if (ports.at(address) == port) {
                    found++;
                }
            }
            return found;
        }

        int addressOf(int entry) {
            int before = 0;
            for (int address = 1; address <= LAST_ADDRESS; address++) {
                if (ports.at(address) != NONE) {
                    if (before == entry) {
                        return address;
                    }
                    before++;
                }
            }
            return NONE;
        }
    }

    /** How often each address has moved in each of the latest seconds: apart from the entries, as it outlives them. */
    private static final class Moves {
        private static final int ADDRESSES = LAST_ADDRESS + 1;
        private final Row times = new Row(MOVE_SECONDS * ADDRESSES);

        void copyFrom(Moves other) {
            times.copyFrom(other.times);
        }

        void add(int address, int clock) {
            times.add(clock % MOVE_SECONDS * ADDRESSES + address, 1);
        }

        int latelyOf(int address) {
            int sum = 0;
            for (int second = 0; second < MOVE_SECONDS; second++) {
                sum += times.at(second * ADDRESSES + address);
            }
            return sum;
        }

        /** The cells of a second that begins are those of the one that is no longer among the latest. */
        void beginSecond(int clock) {
            times.fill(clock % MOVE_SECONDS * ADDRESSES, ADDRESSES, 0);
        }
    }

    /** Frames that are about to come in, with the port of each. */
    private static final class Arrivals {
        // No port sends more in a second than its queue holds, and a text has room for 11 frames at most.
        private static final int MOST = PORTS * PLACES;
        private final Row parts = new Row(MOST * PARTS);
        private int size;

        void append(int port, int source, int destination, int priority) {
            if (size >= MOST) {
                return;
            }
            int cell = size * PARTS;
            parts.put(cell + SOURCE, source);
            parts.put(cell + DESTINATION, destination);
            parts.put(cell + PRIORITY, priority);
            parts.put(cell + INLET, port);
            size++;
        }

        int partOf(int place, int what) {
            return parts.at(place * PARTS + what);
        }
    }

    /** All that undo() and restore() bring back. */
    private static final class State {
        private final Row settings = new Row(FIRST_SETTINGS.length);
        private final Ports ports = new Ports();
        private final Queues queues = new Queues();
        private final Table table = new Table();
        private final Moves moves = new Moves();
        private int clock;
        private int nextNumber;
        private int quarantinesBegun;

        State() {
            for (int what = 0; what < FIRST_SETTINGS.length; what++) {
                settings.put(what, FIRST_SETTINGS[what]);
            }
        }

        void copyFrom(State other) {
            settings.copyFrom(other.settings);
            ports.copyFrom(other.ports);
            queues.copyFrom(other.queues);
            table.copyFrom(other.table);
            moves.copyFrom(other.moves);
            clock = other.clock;
            nextNumber = other.nextNumber;
            quarantinesBegun = other.quarantinesBegun;
        }

        void dropQueue(int port) {
            int size = queues.sizes.at(port);
            queues.removeFirst(port, size);
            ports.credit(port, DROPPED, size);
        }

        /** Tells what becomes of the frame. */
        int comeIn(int port, int source, int destination, int priority) {
            int fate = learnAndDecide(port, source, destination);
            int ways = waysOut(fate, port, destination);
            for (int way = 0; way < PORTS; way++) {
                if ((ways >> way & 1) == 1) {
                    goOut(way, source, destination, priority);
                }
            }
            ports.credit(port, CAME_IN, 1);
            ports.credit(port, accountOf(fate), 1);
            return fate;
        }

        /** All steps of a frame that comes in, but that it goes out and that it is accounted for. */
        int learnAndDecide(int port, int source, int destination) {
            if (!ports.isOpen(port)) {
                return TURNED_AWAY;
            }
            int before = table.portOf(source);
            table.learn(source, port, clock);
            if (before != NONE && before != port) {
                moves.add(source, clock);
                if (moves.latelyOf(source) >= TOO_MANY_MOVES) {
                    quarantine(port, FOR_MOVES);
                    return CUT_FOR_MOVES;
                }
            }
            // Asked only now: the new entry may be that of the destination, or have taken its place.
            int way = table.portOf(destination);
            if (way == port) {
                return FILTERED;
            }
            if (way != NONE) {
                return ports.isOpen(way) ? ONE_PORT : DEAD_END;
            }
            if (ports.floods.at(port) >= settings.at(FLOODS)) {
                quarantine(port, FOR_STORM);
                return CUT_FOR_STORM;
            }
            ports.floods.add(port, 1);
            return FLOOD;
        }

        private void quarantine(int port, int reason) {
            ports.beginQuarantine(port, settings.at(QUARANTINE), reason);
            table.removeAllWith(port);
            quarantinesBegun++;
        }

        /** The ports of which a frame with this fate goes out, the bit k for the port k. */
        int waysOut(int fate, int port, int destination) {
            if (fate == ONE_PORT) {
                return 1 << table.portOf(destination);
            }
            return fate == FLOOD ? ports.openOnes() & ~(1 << port) : 0;
        }

        private void goOut(int port, int source, int destination, int priority) {
            if (queues.isFull(port)) {
                ports.credit(port, DROPPED, 1);
                return;
            }
            queues.insert(port, source, destination, priority, nextNumber);
            ports.credit(port, PUT_IN_QUEUE, 1);
            nextNumber++;
        }

        private static int accountOf(int fate) {
            if (fate == DEAD_END) {
                return CAME_TO_DEAD_END;
            }
            return fate == CUT_FOR_MOVES || fate == CUT_FOR_STORM ? CUT : fate + 1;
        }

        /** Lets the frames come in, and tells how many of them were not turned away. */
        int letIn(Arrivals arrivals) {
            int taken = 0;
            for (int place = 0; place < arrivals.size; place++) {
                int fate = comeIn(arrivals.partOf(place, INLET), arrivals.partOf(place, SOURCE),
                        arrivals.partOf(place, DESTINATION), arrivals.partOf(place, PRIORITY));
                if (fate != TURNED_AWAY) {
                    taken++;
                }
            }
            return taken;
        }

        /** Sends frames of all open ports, keeps those that are on their way, and tells how many were sent. */
        int sendInto(Arrivals arrivals) {
            arrivals.size = 0;
            int sent = 0;
            for (int port = 0; port < PORTS; port++) {
                if (ports.isOpen(port)) {
                    sent += sendFrom(port, arrivals);
                }
            }
            return sent;
        }

        private int sendFrom(int port, Arrivals arrivals) {
            int frames = Math.min(settings.at(RATE), queues.sizes.at(port));
            int other = ports.farEnd(port);
            for (int place = 0; place < frames && other != NONE; place++) {
                arrivals.append(other, queues.partOf(port, place, SOURCE),
                        queues.partOf(port, place, DESTINATION), queues.partOf(port, place, PRIORITY));
            }
            queues.removeFirst(port, frames);
            ports.credit(port, SENT, frames);
            if (other == NONE) {
                ports.credit(port, DELIVERED, frames);
            }
            return frames;
        }

        void endSecond() {
            clock++;
            ports.endSecond();
            table.removeUntil(clock - settings.at(AGE));
            moves.beginSecond(clock);
        }
    }

    /** The latest states; the oldest one's place is used again for the newest. */
    private static final class History {
        private final State[] states = new State[STATES];
        private int next;
        private int size;

        History() {
            for (int place = 0; place < states.length; place++) {
                states[place] = new State();
            }
        }

        private State stateAt(int place) {
            return place >= 0 && place < states.length ? states[place] : null;
        }

        void record(State present) {
            State state = stateAt(next);
            if (state == null) {
                return;
            }
            state.copyFrom(present);
            next = (next + 1) % STATES;
            size = Math.min(size + 1, STATES);
        }

        /** Whether there was a state to bring back. */
        boolean takeBack(State present) {
            int latest = (next + STATES - 1) % STATES;
            State state = stateAt(latest);
            if (size == 0 || state == null) {
                return false;
            }
            present.copyFrom(state);
            next = latest;
            size--;
            return true;
        }
    }

    /** The text, and the reading of frames from it: reading stops at the place of the fault. */
    private static final class Text {
        private static final int END = -1;
        private final char[] signs = new char[SIGNS];
        private int length;
        private int place;

        boolean append(char sign) {
            if (length < 0 || length >= signs.length) {
                return false;
            }
            signs[length] = sign;
            length++;
            return true;
        }

        /** The place of the fault, or NO_FAULT. */
        int readInto(Arrivals arrivals) {
            arrivals.size = 0;
            place = 0;
            for (int frame = 0; frame <= length; frame++) {
                if (!readFrame(arrivals)) {
                    return place;
                }
                if (place == length) {
                    return NO_FAULT;
                }
                if (!skip(';')) {
                    return place;
                }
            }
            return place;
        }

        private boolean readFrame(Arrivals arrivals) {
            int source = readAddress();
            if (source == NONE || !skip('>')) {
                return false;
            }
            int destination = skip('*') ? 0 : readAddress();
            if (destination == NONE) {
                return false;
            }
            int priority = skip('!') ? readDigit(0, LAST_PRIORITY) : 0;
            if (priority == NONE || !skip('@')) {
                return false;
            }
            int port = readDigit(0, PORTS - 1);
            if (port == NONE) {
                return false;
            }
            arrivals.append(port, source, destination, priority);
            return true;
        }

        private int readAddress() {
            int first = readDigit(1, 9);
            if (first == NONE) {
                return NONE;
            }
            int second = readDigit(0, 9);
            return second == NONE ? first : first * 10 + second;
        }

        private int readDigit(int least, int most) {
            int digit = signAt(place) - '0';
            if (digit < least || digit > most) {
                return NONE;
            }
            place++;
            return digit;
        }

        private boolean skip(char sign) {
            if (signAt(place) != sign) {
                return false;
            }
            place++;
            return true;
        }

        private int signAt(int index) {
            return index >= 0 && index < length && index < signs.length ? signs[index] : END;
        }
    }
}
