import java.util.Arrays;
import java.util.NoSuchElementException;

/**
 * A network switch that records all of its events, explains each drop by replaying them from
 * checkpoints, and tells by replays with other settings or without an event what would have
 * saved a packet.
 */
public final class DropSwitch {
    public static final int NONE = -1;
    public static final int DOWN = 1;
    public static final int RULE = 2;
    public static final int POLICED = 3;
    public static final int BACK = 4;
    public static final int NOWHERE = 5;
    public static final int BUFFER = 6;
    public static final int FULL = 7;
    public static final int PUSHED = 8;
    public static final int STALE = 9;
    public static final int LOST = 10;
    public static final int SYNTAX = 1;
    public static final int BAD_NUMBER = 2;
    public static final int BAD_NAME = 3;
    public static final int TOO_MANY = 4;

    private static final int MOST_BYTES = 600;
    private static final int MOST_PORTS = 4;
    private static final int MOST_RULES = 8;
    private static final int MOST_EVENTS = 120;
    private static final int MOST_ADDRESSES = 64;
    private static final int MOST_SIZE = 9;
    private static final int HIGHEST_CLASS = 3;
    private static final int MOST_CAPACITY = 99;
    private static final int MOST_BUFFER = 400;
    private static final int MOST_WAIT = 99;
    private static final int MOST_AGE = 999;

    /** The number of events from one checkpoint to the next. */
    private static final int SPACING = 16;
    private static final int MOST_CHECKPOINTS = (MOST_EVENTS + SPACING - 1) / SPACING;

    // A packet is dropped altogether, or each of its copies once: three at most, for it never
    // goes out where it came in.
    private static final int MOST_DROPS = MOST_EVENTS * (MOST_PORTS - 1);
    private static final int DROP_WORDS = (MOST_DROPS + 63) / 64;

    // The fields of a drop, as dropField numbers them.
    private static final int DROP_EVENT = 0;
    private static final int DROP_PACKET = 1;
    private static final int DROP_PORT = 2;
    private static final int DROP_CAUSE = 3;
    private static final int DROP_DETAIL = 4;
    private static final int DROP_FIELDS = 5;

    // The kinds of events, as eventKind numbers them.
    private static final int ARRIVAL = 0;
    private static final int TICK = 1;
    private static final int LINK_UP = 2;
    private static final int LINK_DOWN = 3;

    // What becomes of a copy, as fate numbers it.
    private static final int NO_COPY = 0;
    private static final int IN_QUEUE = 1;
    private static final int DELIVERED = 2;
    private static final int DROPPED = 3;

    // What can be supposed, as suppose numbers it.
    private static final int OF_CAPACITY = 0;
    private static final int OF_BUFFER = 1;
    private static final int OF_WAIT = 2;
    private static final int OF_AGE = 3;
    private static final int OF_RULE = 4;

    private final byte[] input = new byte[MOST_BYTES];
    private int inputLength = 0;
    private int badOffset = NONE;
    private int badKind = 0;
    private final Reader reader = new Reader(input);
    private Setup setup = new Setup();

    private final History history = new History();
    private final State[] checkpointStates = new State[MOST_CHECKPOINTS];
    private final Run present = new Run(history);
    private final Run trial = new Run(history);

    private final Suppositions suppositions = new Suppositions();
    private final Run supposed = new Run(history);

    // Each change of the events gets a number of its own, so that what was worked out for
    // other events is known to be old without being cleared. 0 is never a change.
    private int changes = 1;
    private int supposedAt = 0;
    private final int[] triedAt = new int[MOST_EVENTS];
    private final long[] savedWithout = new long[MOST_EVENTS * DROP_WORDS];

    private final Line line = new Line();

    public DropSwitch() {
        for (int k = 0; k < MOST_CHECKPOINTS; k++) {
            checkpointStates[k] = new State();
        }
        startOver();
    }

    // ---- input

    public int append(int w0, int w1, int w2, int w3, int w4) {
        if (inputLength + 20 > MOST_BYTES) {
            return NONE;
        }
        appendWord(w0);
        appendWord(w1);
        appendWord(w2);
        appendWord(w3);
        appendWord(w4);
        return inputLength;
    }

    public boolean truncate(int length) {
        if (length < 0 || length > inputLength) {
            return false;
        }
        inputLength = length;
        return true;
    }

    public int load() throws IllegalArgumentException {
        boolean isGood = reader.read(inputLength);
        inputLength = 0;
        badOffset = reader.badOffset;
        badKind = reader.badKind;
        if (!isGood) {
            throw new IllegalArgumentException();
        }
        Setup loaded = reader.setup;
        reader.setup = setup;
        setup = loaded;
        startOver();
        return setup.limits.ports;
    }

    public int errorOffset() {
        return badOffset;
    }

    public int errorKind() {
        return badKind;
    }

    public int count(int what) throws NoSuchElementException {
        switch (what) {
            case 0:
                return setup.limits.ports;
            case 1:
                return setup.rules;
            case 2:
                return history.events;
            case 3:
                return history.packets;
            case 4:
                return present.log.drops;
            case 5:
                return present.state.time;
            default:
                throw new NoSuchElementException();
        }
    }

    // ---- events

    public int arrive(int port, int source, int target, int size, int rank)
            throws IndexOutOfBoundsException, IllegalArgumentException, IllegalStateException {
        needPort(port);
        needAddress(source);
        needAddress(target);
        if (size < 1 || size > MOST_SIZE || rank < 0 || rank > HIGHEST_CLASS) {
            throw new IllegalArgumentException();
        }
        needRoom();
        int packet = history.packets;
        history.addPacket(port, source, target, size, rank);
        history.rules[packet] = setup.rulesHolding(history, packet);
        return goOn();
    }

    public int tick() throws IllegalStateException {
        needRoom();
        history.addEvent(TICK, NONE);
        return goOn();
    }

    public int link(int port, boolean isUp) throws IndexOutOfBoundsException, IllegalStateException {
        needPort(port);
        needRoom();
        history.addEvent(isUp ? LINK_UP : LINK_DOWN, port);
        return goOn();
    }

    public int rewind(int events) throws IllegalArgumentException {
        if (events < 0 || events > history.events) {
            throw new IllegalArgumentException();
        }
        history.cut(events);
        suppositions.clear();
        changes++;
        present.start();
        for (int event = 0; event < events; event++) {
            present.happen(event);
        }
        return present.log.drops;
    }

    public int eventKind(int event) throws IndexOutOfBoundsException {
        needEvent(event);
        return history.kind[event];
    }

    public int packetOf(int event) throws IndexOutOfBoundsException {
        needEvent(event);
        return history.packet[event];
    }

    public int arrivalOf(int packet) throws IndexOutOfBoundsException {
        needPacket(packet);
        return history.arrival[packet];
    }

    // ---- the present state

    public int fill(int port) throws IndexOutOfBoundsException {
        needPort(port);
        return present.state.units[port];
    }

    public int queueLength(int port) throws IndexOutOfBoundsException {
        needPort(port);
        return present.state.copies[port];
    }

    public int queued(int port, int k) throws IndexOutOfBoundsException {
        needPort(port);
        return present.state.packetAt(port, k);
    }

    public boolean isUp(int port) throws IndexOutOfBoundsException {
        needPort(port);
        return present.state.hasLink(port);
    }

    public int tokens(int port) throws IndexOutOfBoundsException {
        needPort(port);
        return present.limits.hasPolicer(port) ? present.state.allowance[port] : NONE;
    }

    public int portOf(int address) throws IllegalArgumentException {
        needAddress(address);
        return present.state.wayTo(address, present.limits.age);
    }

    public int tableSize() {
        int valid = 0;
        for (int address = 0; address < MOST_ADDRESSES; address++) {
            if (present.state.wayTo(address, present.limits.age) != NONE) {
                valid++;
            }
        }
        return valid;
    }

    public int delivered(int port) throws IndexOutOfBoundsException {
        needPort(port);
        return present.log.deliveries[port];
    }

    public int fate(int packet, int port) throws IndexOutOfBoundsException {
        needPacket(packet);
        needPort(port);
        return present.log.fateOf(packet, port);
    }

    // ---- drops

    public int dropField(int drop, int what) throws IndexOutOfBoundsException, NoSuchElementException {
        needDrop(drop);
        if (what < 0 || what >= DROP_FIELDS) {
            throw new NoSuchElementException();
        }
        return present.log.dropPart(drop, what);
    }

    public int firstDrop(int packet) throws IndexOutOfBoundsException {
        needPacket(packet);
        for (int drop = 0; drop < present.log.drops; drop++) {
            if (present.log.dropPart(drop, DROP_PACKET) == packet) {
                return drop;
            }
        }
        return NONE;
    }

    public int dropsBy(int cause) throws IllegalArgumentException {
        needCause(cause);
        return present.log.dropsWith(cause);
    }

    public int dropsByRule(int rule) throws IndexOutOfBoundsException {
        needRule(rule);
        return present.log.dropsWith(RULE, rule);
    }

    public int pushedBy(int packet) throws IndexOutOfBoundsException {
        needPacket(packet);
        return present.log.dropsWith(PUSHED, packet);
    }

    // ---- replays

    public int checkpoints() {
        return (history.events + SPACING - 1) / SPACING;
    }

    public int repeats(int event) throws IndexOutOfBoundsException {
        needMoment(event);
        return event - latestCheckpoint(event);
    }

    public int fillAt(int event, int port) throws IndexOutOfBoundsException {
        needMoment(event);
        needPort(port);
        reach(event);
        return trial.state.units[port];
    }

    public int portAt(int event, int address) throws IndexOutOfBoundsException, IllegalArgumentException {
        needMoment(event);
        needAddress(address);
        reach(event);
        return trial.state.wayTo(address, trial.limits.age);
    }

    public int peak(int port) throws IndexOutOfBoundsException {
        needPort(port);
        return present.log.peakEvent[port];
    }

    // ---- suppositions

    public int suppose(int what, int index, int value)
            throws NoSuchElementException, IndexOutOfBoundsException, IllegalArgumentException {
        if (what < OF_CAPACITY || what > OF_RULE) {
            throw new NoSuchElementException();
        }
        if (what == OF_CAPACITY) {
            needPort(index);
        }
        if (what == OF_RULE) {
            needRule(index);
        }
        if (!fitsSetting(what, value)) {
            throw new IllegalArgumentException();
        }
        supposedAt = 0;
        suppositions.set(what, index, value);
        return suppositions.settings();
    }

    public int leaveOut(int event) throws IndexOutOfBoundsException {
        needEvent(event);
        supposedAt = 0;
        suppositions.leftOut[event] = true;
        return suppositions.eventsLeftOut();
    }

    public int clearSuppositions() {
        int ended = suppositions.settings() + suppositions.eventsLeftOut();
        supposedAt = 0;
        suppositions.clear();
        return ended;
    }

    public int supposedDrops() {
        refreshSupposed();
        return supposed.log.drops;
    }

    public int supposedDropsBy(int cause) throws IllegalArgumentException {
        needCause(cause);
        refreshSupposed();
        return supposed.log.dropsWith(cause);
    }

    public int supposedFate(int packet, int port) throws IndexOutOfBoundsException {
        needPacket(packet);
        needPort(port);
        refreshSupposed();
        return supposed.log.fateOf(packet, port);
    }

    public int supposedDelivered(int port) throws IndexOutOfBoundsException {
        needPort(port);
        refreshSupposed();
        return supposed.log.deliveries[port];
    }

    public int saved() {
        refreshSupposed();
        return present.log.dropsMissingIn(supposed.log);
    }

    public int newlyDropped() {
        refreshSupposed();
        return supposed.log.dropsMissingIn(present.log);
    }

    // ---- explanations

    public int evidenceCount(int drop) throws IndexOutOfBoundsException {
        needDrop(drop);
        // A later event cannot be evidence: the drop is there before it happens.
        int last = present.log.dropPart(drop, DROP_EVENT);
        int found = 0;
        for (int event = 0; event <= last; event++) {
            tryWithout(event);
            if (isSavedWithout(event, drop)) {
                found++;
            }
        }
        return found;
    }

    public int evidence(int drop, int k) throws IndexOutOfBoundsException {
        needDrop(drop);
        int last = present.log.dropPart(drop, DROP_EVENT);
        int found = 0;
        for (int event = 0; event <= last; event++) {
            tryWithout(event);
            if (isSavedWithout(event, drop)) {
                if (found == k) {
                    return event;
                }
                found++;
            }
        }
        return NONE;
    }

    public int leastCapacity(int drop) throws IndexOutOfBoundsException {
        needDrop(drop);
        int port = present.log.dropPart(drop, DROP_PORT);
        if (port == NONE) {
            return NONE;
        }
        for (int capacity = 1; capacity <= MOST_CAPACITY; capacity++) {
            trial.limits.copyFrom(setup.limits);
            trial.limits.capacity[port] = capacity;
            if (!trialDrops(drop)) {
                return capacity;
            }
            // A capacity that never came into play leaves nothing for a greater one to change.
            if (!trial.log.wasCrowded(port)) {
                return NONE;
            }
        }
        return NONE;
    }

    public int savingRules(int drop) throws IndexOutOfBoundsException {
        needDrop(drop);
        int saving = 0;
        for (int rule = 0; rule < setup.rules; rule++) {
            trial.limits.copyFrom(setup.limits);
            trial.limits.idleRules = 1 << rule;
            if (!trialDrops(drop)) {
                saving |= 1 << rule;
            }
        }
        return saving;
    }

    // ---- formatted text

    public int formatDrop(int drop) throws IndexOutOfBoundsException {
        needDrop(drop);
        int detail = present.log.dropPart(drop, DROP_DETAIL);
        int port = present.log.dropPart(drop, DROP_PORT);
        line.length = 0;
        line.addNumber(present.log.dropPart(drop, DROP_PACKET));
        line.add('@');
        line.addNumber(present.log.dropPart(drop, DROP_EVENT));
        line.add(' ');
        line.addWord(causeWord(present.log.dropPart(drop, DROP_CAUSE)));
        if (detail != NONE) {
            line.add('=');
            line.addNumber(detail);
        }
        if (port != NONE) {
            line.add(' ');
            line.addName(setup.nameOf(port));
        }
        return line.length;
    }

    public int formatQueue(int port) throws IndexOutOfBoundsException {
        needPort(port);
        line.length = 0;
        line.addName(setup.nameOf(port));
        for (int k = 0; k < present.state.copies[port]; k++) {
            int packet = present.state.packetAt(port, k);
            line.add(' ');
            line.addNumber(packet);
            line.add('.');
            line.addNumber(history.rankOf(packet));
        }
        return line.length;
    }

    public int formattedByte(int index) {
        return index >= 0 && index < line.length ? line.bytes[index] : NONE;
    }

    // ---- what the calls need

    private void needPort(int port) {
        if (port < 0 || port >= setup.limits.ports) {
            throw new IndexOutOfBoundsException();
        }
    }

    private void needRule(int rule) {
        if (rule < 0 || rule >= setup.rules) {
            throw new IndexOutOfBoundsException();
        }
    }

    private void needEvent(int event) {
        if (event < 0 || event >= history.events) {
            throw new IndexOutOfBoundsException();
        }
    }

    /** An event, or the number of all events, which stands for the present. */
    private void needMoment(int event) {
        if (event < 0 || event > history.events) {
            throw new IndexOutOfBoundsException();
        }
    }

    private void needPacket(int packet) {
        if (packet < 0 || packet >= history.packets) {
            throw new IndexOutOfBoundsException();
        }
    }

    private void needDrop(int drop) {
        if (drop < 0 || drop >= present.log.drops) {
            throw new IndexOutOfBoundsException();
        }
    }

    private void needAddress(int address) {
        if (address < 0 || address >= MOST_ADDRESSES) {
            throw new IllegalArgumentException();
        }
    }

    private void needCause(int cause) {
        if (cause < DOWN || cause > LOST) {
            throw new IllegalArgumentException();
        }
    }

    private void needRoom() {
        if (history.events >= MOST_EVENTS) {
            throw new IllegalStateException();
        }
    }

    // ---- how the calls work

    private void appendWord(int word) {
        for (int shift = 24; shift >= 0; shift -= 8) {
            input[inputLength] = (byte) (word >> shift);
            inputLength++;
        }
    }

    /** Begins anew with the present settings: no events, no suppositions. */
    private void startOver() {
        history.cut(0);
        suppositions.clear();
        changes++;
        present.limits.copyFrom(setup.limits);
        present.start();
        // The replays of a switch without events need a state to begin at, too.
        checkpointStates[0].copyFrom(present.state);
    }

    /** Lets the event that was added last happen. */
    private int goOn() {
        int event = history.events - 1;
        changes++;
        if (event % SPACING == 0) {
            checkpointStates[event / SPACING].copyFrom(present.state);
        }
        return present.happen(event);
    }

    /** The event of the latest checkpoint that is kept for the event or an earlier one. */
    private int latestCheckpoint(int event) {
        int latest = Math.min(event, history.events - 1);
        return latest < 0 ? 0 : latest - latest % SPACING;
    }

    /** Takes the trial run to the state ahead of the event. */
    private void reach(int event) {
        int first = latestCheckpoint(event);
        trial.limits.copyFrom(setup.limits);
        trial.startAt(checkpointStates[first / SPACING]);
        for (int k = first; k < event; k++) {
            trial.happen(k);
        }
    }

    private static boolean fitsSetting(int what, int value) {
        switch (what) {
            case OF_CAPACITY:
                return value >= 1 && value <= MOST_CAPACITY;
            case OF_BUFFER:
                return value >= 1 && value <= MOST_BUFFER;
            case OF_WAIT:
                return value >= 1 && value <= MOST_WAIT;
            case OF_AGE:
                return value >= 0 && value <= MOST_AGE;
            default:
                return true;
        }
    }

    private void refreshSupposed() {
        if (supposedAt == changes) {
            return;
        }
        supposedAt = changes;
        supposed.limits.copyFrom(setup.limits);
        suppositions.changeLimits(supposed.limits);
        supposed.start();
        for (int event = 0; event < history.events; event++) {
            if (!suppositions.leftOut[event]) {
                supposed.happen(event);
            }
        }
    }

    /** Notes for all drops at once, as bits, which of them the run without the event lacks. */
    private void tryWithout(int event) {
        if (triedAt[event] == changes) {
            return;
        }
        triedAt[event] = changes;
        int first = latestCheckpoint(event);
        trial.limits.copyFrom(setup.limits);
        trial.startAt(checkpointStates[first / SPACING]);
        for (int k = first; k < history.events; k++) {
            if (k != event) {
                trial.happen(k);
            }
        }
        int row = event * DROP_WORDS;
        for (int k = 0; k < DROP_WORDS; k++) {
            savedWithout[row + k] = 0;
        }
        for (int drop = 0; drop < present.log.drops; drop++) {
            // The trial's log begins at the checkpoint; no earlier drop can be saved.
            if (present.log.dropPart(drop, DROP_EVENT) >= first && !trial.log.hasDropLike(present.log, drop)) {
                savedWithout[row + drop / 64] |= 1L << (drop % 64);
            }
        }
    }

    private boolean isSavedWithout(int event, int drop) {
        return ((savedWithout[event * DROP_WORDS + drop / 64] >>> (drop % 64)) & 1) != 0;
    }

    /** Runs all events with the trial's limits until a drop like the present one happens. */
    private boolean trialDrops(int drop) {
        trial.start();
        for (int event = 0; event < history.events; event++) {
            trial.happen(event);
            if (trial.log.hasDropLike(present.log, drop)) {
                return true;
            }
        }
        return false;
    }

    private static String causeWord(int cause) {
        switch (cause) {
            case DOWN:
                return "down";
            case RULE:
                return "rule";
            case POLICED:
                return "policed";
            case BACK:
                return "back";
            case NOWHERE:
                return "nowhere";
            case BUFFER:
                return "buffer";
            case FULL:
                return "full";
            case PUSHED:
                return "pushed";
            case STALE:
                return "stale";
            default:
                return "lost";
        }
    }

    /** The settings that a run goes by; a supposition changes those of its run alone. */
    private static final class Limits {
        int ports;
        final int[] capacity = new int[MOST_PORTS];
        final int[] speed = new int[MOST_PORTS];
        final int[] rate = new int[MOST_PORTS]; // NONE without a policer
        final int[] burst = new int[MOST_PORTS];
        int buffer;
        int wait;
        int age;
        int droppingRules; // bit k for rule k
        int idleRules; // bit k: rule k is supposed to hold for no packet

        void reset() {
            ports = 0;
            buffer = MOST_BUFFER;
            wait = MOST_WAIT;
            age = 100;
            droppingRules = 0;
            idleRules = 0;
        }

        void copyFrom(Limits other) {
            ports = other.ports;
            System.arraycopy(other.capacity, 0, capacity, 0, MOST_PORTS);
            System.arraycopy(other.speed, 0, speed, 0, MOST_PORTS);
            System.arraycopy(other.rate, 0, rate, 0, MOST_PORTS);
            System.arraycopy(other.burst, 0, burst, 0, MOST_PORTS);
            buffer = other.buffer;
            wait = other.wait;
            age = other.age;
            droppingRules = other.droppingRules;
            idleRules = other.idleRules;
        }

        boolean hasPolicer(int port) {
            return rate[port] != NONE;
        }

        boolean isDropping(int rule) {
            return (droppingRules >> rule & 1) != 0;
        }
    }

    /** What an input text tells: the settings, the names of the ports and the conditions. */
    private static final class Setup {
        // A condition is kept in postfix order: each item is one of these kinds, and above
        // its lowest four bits what the kind needs.
        static final int KIND_BITS = 4;
        static final int NOT = 0;
        static final int AND = 1;
        static final int OR = 2;
        static final int ANY = 3;
        static final int AT = 4;
        static final int FROM = 5;
        static final int TO = 6;
        static final int SIZE = 7;
        static final int CLASS = 8;

        final Limits limits = new Limits();
        private final int[] names = new int[MOST_PORTS];
        int rules;
        private final int[] firstItem = new int[MOST_RULES + 1];
        private final int[] items = new int[MOST_BYTES]; // each item stands for a byte or more
        private int itemCount;

        Setup() {
            reset();
        }

        void reset() {
            limits.reset();
            rules = 0;
            itemCount = 0;
        }

        void addPort(int name, int capacity, int speed) {
            int port = limits.ports;
            if (port >= MOST_PORTS) {
                return;
            }
            names[port] = name;
            limits.capacity[port] = capacity;
            limits.speed[port] = speed;
            limits.rate[port] = NONE;
            limits.burst[port] = 0;
            limits.ports++;
        }

        int portNamed(int name) {
            for (int port = 0; port < limits.ports; port++) {
                if (names[port] == name) {
                    return port;
                }
            }
            return NONE;
        }

        int nameOf(int port) {
            return names[port];
        }

        void addItem(int kind, int what) {
            if (itemCount < items.length) {
                items[itemCount] = what << KIND_BITS | kind;
                itemCount++;
            }
        }

        /** Makes a rule of the items that were added since the rule before. */
        void addRule(boolean drops) {
            if (rules >= MOST_RULES) {
                return;
            }
            if (drops) {
                limits.droppingRules |= 1 << rules;
            }
            rules++;
            firstItem[rules] = itemCount;
        }

        /** Tells, as a bit set, which rules hold for the packet: no state can change that. */
        int rulesHolding(History history, int packet) {
            int holding = 0;
            for (int rule = 0; rule < rules; rule++) {
                if (holds(rule, history, packet)) {
                    holding |= 1 << rule;
                }
            }
            return holding;
        }

        private boolean holds(int rule, History history, int packet) {
            // A stack of bits, the top one lowest; five nestings need fewer than 32 of them.
            int truths = 0;
            for (int k = firstItem[rule]; k < firstItem[rule + 1]; k++) {
                switch (items[k] & (1 << KIND_BITS) - 1) {
                    case NOT:
                        truths ^= 1;
                        break;
                    case AND:
                        truths = truths >>> 1 & (truths | ~1);
                        break;
                    case OR:
                        truths = truths >>> 1 | truths & 1;
                        break;
                    default:
                        truths = truths << 1 | (isTrue(items[k], history, packet) ? 1 : 0);
                        break;
                }
            }
            return (truths & 1) != 0;
        }

        private static boolean isTrue(int item, History history, int packet) {
            int what = item >> KIND_BITS;
            switch (item & (1 << KIND_BITS) - 1) {
                case AT:
                    return history.entryPort(packet) == what;
                case FROM:
                    return compares(history.source[packet], what);
                case TO:
                    return compares(history.target[packet], what);
                case SIZE:
                    return compares(history.size[packet], what);
                case CLASS:
                    return compares(history.rank[packet], what);
                default:
                    return true;
            }
        }

        /** What a comparison needs: the number, and below it how the value must compare to it. */
        static int comparison(int order, int number) {
            return number << 2 | order + 1;
        }

        private static boolean compares(int value, int comparison) {
            return Integer.compare(value, comparison >> 2) == (comparison & 3) - 1;
        }
    }

    /** Reads an input text into a setup of its own, which load takes when the text is right. */
    private static final class Reader {
        private static final int END = 0;
        private static final int WORD = 1;
        private static final int NUMBER = 2;
        private static final int SIGN = 3;
        private static final int DEEPEST = 5;

        Setup setup = new Setup();
        int badOffset = NONE;
        int badKind = 0;
        private final byte[] text;
        private int length;
        private int at; // behind the present token
        private int start; // of the present token
        private int token;
        private int name; // the latest name that was read
        private int port; // the port of that name, or NONE
        private int number; // the latest number that was read

        Reader(byte[] text) {
            this.text = text;
        }

        boolean read(int textLength) {
            length = Math.min(textLength, text.length);
            at = 0;
            badOffset = NONE;
            badKind = 0;
            setup.reset();
            next();
            boolean isGood = true;
            // Each line takes a byte at least.
            for (int k = 0; k < length && isGood && token != END; k++) {
                if (isWord("port")) {
                    isGood = readPort();
                } else if (isWord("police")) {
                    isGood = readPolicer();
                } else if (isWord("pass") || isWord("drop")) {
                    isGood = readRule();
                } else {
                    isGood = readLimit();
                }
                isGood = isGood && readSign(';');
            }
            return isGood;
        }

        private void next() {
            while (at < length && (text[at] == ' ' || text[at] == '\t' || text[at] == '\n')) {
                at++;
            }
            start = at;
            token = END;
            while (at < length && text[at] >= 'a' && text[at] <= 'z') {
                token = WORD;
                at++;
            }
            while (at < length && token != WORD && text[at] >= '0' && text[at] <= '9') {
                token = NUMBER;
                at++;
            }
            if (at < length && token == END) {
                token = SIGN;
                at++;
            }
        }

        private boolean fail(int kind) {
            badOffset = start;
            badKind = kind;
            return false;
        }

        private boolean isWord(String word) {
            if (token != WORD || at - start != word.length()) {
                return false;
            }
            for (int k = 0; k < word.length(); k++) {
                if (text[start + k] != word.charAt(k)) {
                    return false;
                }
            }
            return true;
        }

        private boolean isSign(char sign) {
            return token == SIGN && text[start] == sign;
        }

        private boolean readSign(char sign) {
            if (!isSign(sign)) {
                return fail(SYNTAX);
            }
            next();
            return true;
        }

        private boolean readNumber(int least, int most) {
            if (token != NUMBER) {
                return fail(SYNTAX);
            }
            if (at - start > 3) {
                return fail(BAD_NUMBER);
            }
            number = 0;
            for (int k = start; k < at; k++) {
                number = number * 10 + text[k] - '0';
            }
            if (number < least || number > most) {
                return fail(BAD_NUMBER);
            }
            next();
            return true;
        }

        private boolean readName(boolean isNew) {
            if (token != WORD || at - start > Line.LONGEST_NAME) {
                return fail(SYNTAX);
            }
            name = 0;
            for (int k = start; k < at; k++) {
                name = name << Line.LETTER_BITS | text[k] - 'a' + 1;
            }
            port = setup.portNamed(name);
            if (isNew ? port != NONE : port == NONE) {
                return fail(BAD_NAME);
            }
            next();
            return true;
        }

        private boolean readLimit() {
            if (isWord("buffer")) {
                next();
                if (!readNumber(1, MOST_BUFFER)) {
                    return false;
                }
                setup.limits.buffer = number;
                return true;
            }
            if (isWord("age")) {
                next();
                if (!readNumber(0, MOST_AGE)) {
                    return false;
                }
                setup.limits.age = number;
                return true;
            }
            if (isWord("wait")) {
                next();
                if (!readNumber(1, MOST_WAIT)) {
                    return false;
                }
                setup.limits.wait = number;
                return true;
            }
            return fail(SYNTAX);
        }

        private boolean readPort() {
            if (setup.limits.ports >= MOST_PORTS) {
                return fail(TOO_MANY);
            }
            next();
            if (!readName(true) || !readNumber(1, MOST_CAPACITY)) {
                return false;
            }
            int capacity = number;
            if (!readNumber(0, 9)) {
                return false;
            }
            setup.addPort(name, capacity, number);
            return true;
        }

        private boolean readPolicer() {
            next();
            if (!readName(false) || !readNumber(0, 99)) {
                return false;
            }
            int rate = number;
            if (!readNumber(0, 99)) {
                return false;
            }
            setup.limits.rate[port] = rate;
            setup.limits.burst[port] = number;
            return true;
        }

        private boolean readRule() {
            if (setup.rules >= MOST_RULES) {
                return fail(TOO_MANY);
            }
            boolean drops = isWord("drop");
            next();
            if (!isWord("if")) {
                return fail(SYNTAX);
            }
            next();
            if (!readCondition(0)) {
                return false;
            }
            setup.addRule(drops);
            return true;
        }

        private boolean readCondition(int depth) {
            if (!readAll(depth)) {
                return false;
            }
            for (int k = 0; k < length && isWord("or"); k++) {
                next();
                if (!readAll(depth)) {
                    return false;
                }
                setup.addItem(Setup.OR, 0);
            }
            return true;
        }

        private boolean readAll(int depth) {
            if (!readAtom(depth)) {
                return false;
            }
            for (int k = 0; k < length && isWord("and"); k++) {
                next();
                if (!readAtom(depth)) {
                    return false;
                }
                setup.addItem(Setup.AND, 0);
            }
            return true;
        }

        private boolean readAtom(int depth) {
            if (isWord("not") || isSign('(')) {
                return readNested(depth);
            }
            int kind = atomKind();
            if (kind == NONE) {
                return fail(SYNTAX);
            }
            next();
            int what = 0;
            if (kind == Setup.AT) {
                if (!readName(false)) {
                    return false;
                }
                what = port;
            } else if (kind != Setup.ANY) {
                int order = isSign('<') ? -1 : isSign('>') ? 1 : 0;
                if (order == 0 && !isSign('=')) {
                    return fail(SYNTAX);
                }
                next();
                if (!readNumber(0, 999)) {
                    return false;
                }
                what = Setup.comparison(order, number);
            }
            setup.addItem(kind, what);
            return true;
        }

        private int atomKind() {
            return isWord("any") ? Setup.ANY
                    : isWord("at") ? Setup.AT
                    : isWord("from") ? Setup.FROM
                    : isWord("to") ? Setup.TO
                    : isWord("size") ? Setup.SIZE
                    : isWord("class") ? Setup.CLASS
                    : NONE;
        }

        private boolean readNested(int depth) {
            if (depth >= DEEPEST) {
                return fail(TOO_MANY);
            }
            boolean isNot = isWord("not");
            next();
            if (isNot) {
                if (!readAtom(depth + 1)) {
                    return false;
                }
                setup.addItem(Setup.NOT, 0);
                return true;
            }
            if (!readCondition(depth + 1)) {
                return false;
            }
            if (!isSign(')')) {
                return fail(SYNTAX);
            }
            next();
            return true;
        }
    }

    /** All events in their order, and the packets that arrive in them. */
    private static final class History {
        int events;
        int packets;
        final int[] kind = new int[MOST_EVENTS];
        final int[] place = new int[MOST_EVENTS]; // the port, NONE for a tick
        final int[] packet = new int[MOST_EVENTS]; // NONE if none arrives
        final int[] arrival = new int[MOST_EVENTS]; // from here on by packets
        final int[] source = new int[MOST_EVENTS];
        final int[] target = new int[MOST_EVENTS];
        final int[] size = new int[MOST_EVENTS];
        final int[] rank = new int[MOST_EVENTS];
        final int[] rules = new int[MOST_EVENTS]; // bit k: rule k holds for the packet

        void addEvent(int eventKind, int port) {
            if (events >= MOST_EVENTS) {
                return;
            }
            kind[events] = eventKind;
            place[events] = port;
            packet[events] = NONE;
            events++;
        }

        void addPacket(int port, int from, int to, int units, int importance) {
            if (events >= MOST_EVENTS || packets >= MOST_EVENTS) {
                return;
            }
            arrival[packets] = events;
            source[packets] = from;
            target[packets] = to;
            size[packets] = units;
            rank[packets] = importance;
            addEvent(ARRIVAL, port);
            packet[events - 1] = packets;
            packets++;
        }

        void cut(int length) {
            events = length;
            packets = 0;
            for (int event = 0; event < length; event++) {
                if (kind[event] == ARRIVAL) {
                    packets++;
                }
            }
        }

        int entryPort(int ofPacket) {
            return place[arrival[ofPacket]];
        }

        int sizeOf(int ofPacket) {
            return ofPacket >= 0 && ofPacket < packets ? size[ofPacket] : 0;
        }

        int rankOf(int ofPacket) {
            return ofPacket >= 0 && ofPacket < packets ? rank[ofPacket] : 0;
        }
    }

    /** What the earlier events have made, and what the later ones depend on. */
    private static final class State {
        // A packet has one copy at most in a queue, so that this is enough for any queue.
        private static final int ROOM = MOST_EVENTS;

        int time;
        private int downLinks; // bit k for port k
        final int[] allowance = new int[MOST_PORTS]; // the tokens
        final int[] units = new int[MOST_PORTS]; // the fills
        final int[] copies = new int[MOST_PORTS]; // the lengths of the queues
        private final int[] packetRow = new int[MOST_PORTS * ROOM];
        private final int[] timeRow = new int[MOST_PORTS * ROOM];
        private final int[] entryPort = new int[MOST_ADDRESSES]; // NONE without an entry
        private final int[] entryTime = new int[MOST_ADDRESSES];

        void start(Limits limits) {
            time = 0;
            downLinks = 0;
            for (int port = 0; port < MOST_PORTS; port++) {
                allowance[port] = limits.burst[port];
                units[port] = 0;
                copies[port] = 0;
            }
            Arrays.fill(entryPort, NONE);
        }

        void copyFrom(State other) {
            time = other.time;
            downLinks = other.downLinks;
            System.arraycopy(other.allowance, 0, allowance, 0, MOST_PORTS);
            System.arraycopy(other.units, 0, units, 0, MOST_PORTS);
            System.arraycopy(other.copies, 0, copies, 0, MOST_PORTS);
            for (int port = 0; port < MOST_PORTS; port++) {
                int first = port * ROOM;
                System.arraycopy(other.packetRow, first, packetRow, first, copies[port]);
                System.arraycopy(other.timeRow, first, timeRow, first, copies[port]);
            }
            System.arraycopy(other.entryPort, 0, entryPort, 0, MOST_ADDRESSES);
            System.arraycopy(other.entryTime, 0, entryTime, 0, MOST_ADDRESSES);
        }

        boolean hasLink(int port) {
            return (downLinks >> port & 1) == 0;
        }

        void setLink(int port, boolean goesUp) {
            if (goesUp) {
                downLinks &= ~(1 << port);
            } else {
                downLinks |= 1 << port;
            }
        }

        /** Takes tokens away, or none if there are too few. */
        boolean spend(int port, int number) {
            if (allowance[port] < number) {
                return false;
            }
            allowance[port] -= number;
            return true;
        }

        int allUnits() {
            int all = 0;
            for (int port = 0; port < MOST_PORTS; port++) {
                all += units[port];
            }
            return all;
        }

        int packetAt(int port, int k) {
            return k >= 0 && k < copies[port] ? packetRow[port * ROOM + k] : NONE;
        }

        int ageOf(int port, int k) {
            return k >= 0 && k < copies[port] ? time - timeRow[port * ROOM + k] : 0;
        }

        void putLast(int port, int packet, int size) {
            if (copies[port] >= ROOM) {
                return;
            }
            int last = port * ROOM + copies[port];
            packetRow[last] = packet;
            timeRow[last] = time;
            copies[port]++;
            units[port] += size;
        }

        void remove(int port, int k, int size) {
            if (k < 0 || k >= copies[port]) {
                return;
            }
            int gap = port * ROOM + k;
            int behind = copies[port] - k - 1;
            System.arraycopy(packetRow, gap + 1, packetRow, gap, behind);
            System.arraycopy(timeRow, gap + 1, timeRow, gap, behind);
            copies[port]--;
            units[port] -= size;
        }

        void learn(int address, int port) {
            entryPort[address] = port;
            entryTime[address] = time;
        }

        void forget(int port) {
            for (int address = 0; address < MOST_ADDRESSES; address++) {
                if (entryPort[address] == port) {
                    entryPort[address] = NONE;
                }
            }
        }

        /** The port of the valid entry for the address, or NONE. */
        int wayTo(int address, int ageLimit) {
            boolean isValid = entryPort[address] != NONE && time - entryTime[address] <= ageLimit;
            return isValid ? entryPort[address] : NONE;
        }
    }

    /** What a run has made that its later events do not depend on. */
    private static final class Log {
        // A packet that is dropped altogether has its fate in a place ahead of those of its copies.
        private static final int FATES = MOST_PORTS + 1;

        int drops;
        private final int[] dropRow = new int[MOST_DROPS * DROP_FIELDS];
        private final int[] fates = new int[MOST_EVENTS * FATES];
        final int[] deliveries = new int[MOST_PORTS];
        private final int[] peakUnits = new int[MOST_PORTS];
        final int[] peakEvent = new int[MOST_PORTS]; // NONE while the queue was always empty

        void clear() {
            drops = 0;
            Arrays.fill(fates, NO_COPY);
            Arrays.fill(deliveries, 0);
            Arrays.fill(peakUnits, 0);
            Arrays.fill(peakEvent, NONE);
        }

        void addDrop(int event, int packet, int port, int cause, int detail) {
            setFate(packet, port, DROPPED);
            if (drops >= MOST_DROPS) {
                return;
            }
            int first = drops * DROP_FIELDS;
            dropRow[first + DROP_EVENT] = event;
            dropRow[first + DROP_PACKET] = packet;
            dropRow[first + DROP_PORT] = port;
            dropRow[first + DROP_CAUSE] = cause;
            dropRow[first + DROP_DETAIL] = detail;
            drops++;
        }

        void addDelivery(int packet, int port) {
            setFate(packet, port, DELIVERED);
            deliveries[port]++;
        }

        void setFate(int packet, int port, int newFate) {
            if (packet >= 0 && packet < MOST_EVENTS) {
                fates[packet * FATES + port + 1] = newFate;
            }
        }

        int fateOf(int packet, int port) {
            return fates[packet * FATES + port + 1];
        }

        void notePeaks(int event, State state) {
            for (int port = 0; port < MOST_PORTS; port++) {
                if (state.units[port] > peakUnits[port]) {
                    peakUnits[port] = state.units[port];
                    peakEvent[port] = event;
                }
            }
        }

        int dropPart(int drop, int what) {
            return dropRow[drop * DROP_FIELDS + what];
        }

        int dropsWith(int cause) {
            int found = 0;
            for (int drop = 0; drop < drops; drop++) {
                if (dropPart(drop, DROP_CAUSE) == cause) {
                    found++;
                }
            }
            return found;
        }

        int dropsWith(int cause, int detail) {
            int found = 0;
            for (int drop = 0; drop < drops; drop++) {
                if (dropPart(drop, DROP_CAUSE) == cause && dropPart(drop, DROP_DETAIL) == detail) {
                    found++;
                }
            }
            return found;
        }

        /** Tells whether this log has a drop of the packet and the port of the other one's drop. */
        boolean hasDropLike(Log other, int drop) {
            return fateOf(other.dropPart(drop, DROP_PACKET), other.dropPart(drop, DROP_PORT)) == DROPPED;
        }

        int dropsMissingIn(Log other) {
            int missing = 0;
            for (int drop = 0; drop < drops; drop++) {
                if (!other.hasDropLike(this, drop)) {
                    missing++;
                }
            }
            return missing;
        }

        /** Tells whether the capacity of the port was ever in the way of a copy. */
        boolean wasCrowded(int port) {
            for (int drop = 0; drop < drops; drop++) {
                int cause = dropPart(drop, DROP_CAUSE);
                if (dropPart(drop, DROP_PORT) == port && (cause == FULL || cause == PUSHED)) {
                    return true;
                }
            }
            return false;
        }
    }

    /** Lets events happen under its own limits: the present run, the supposed one, and trials. */
    private static final class Run {
        final Limits limits = new Limits();
        final State state = new State();
        final Log log = new Log();
        private final History history;
        private int event; // the one that happens

        Run(History history) {
            this.history = history;
        }

        void start() {
            state.start(limits);
            log.clear();
        }

        void startAt(State checkpoint) {
            state.copyFrom(checkpoint);
            log.clear();
        }

        /** Returns what the call that makes such an event returns. */
        int happen(int which) {
            event = which;
            int port = history.place[which];
            int result;
            switch (history.kind[which]) {
                case ARRIVAL:
                    result = takeIn(history.packet[which], port);
                    break;
                case TICK:
                    result = passTick();
                    break;
                case LINK_UP:
                    state.setLink(port, true);
                    result = 0;
                    break;
                default:
                    result = loseLink(port);
                    break;
            }
            log.notePeaks(which, state);
            return result;
        }

        private int takeIn(int packet, int port) {
            if (!state.hasLink(port)) {
                return refuse(packet, DOWN, NONE);
            }
            int rule = decidingRule(packet);
            if (rule != NONE && limits.isDropping(rule)) {
                return refuse(packet, RULE, rule);
            }
            if (limits.hasPolicer(port) && !state.spend(port, history.sizeOf(packet))) {
                return refuse(packet, POLICED, NONE);
            }
            state.learn(history.source[packet], port);
            int ways = waysOut(packet, port);
            if (ways == 1 << port) {
                return refuse(packet, BACK, NONE);
            }
            if (ways == 0) {
                return refuse(packet, NOWHERE, NONE);
            }
            int put = 0;
            for (int way = 0; way < limits.ports; way++) {
                if ((ways >> way & 1) != 0) {
                    put += putCopy(packet, way);
                }
            }
            return put;
        }

        /** Drops a packet altogether: none of its copies is put into a queue. */
        private int refuse(int packet, int cause, int detail) {
            log.addDrop(event, packet, NONE, cause, detail);
            return 0;
        }

        private int decidingRule(int packet) {
            int holding = history.rules[packet] & ~limits.idleRules;
            for (int rule = 0; rule < MOST_RULES; rule++) {
                if ((holding >> rule & 1) != 0) {
                    return rule;
                }
            }
            return NONE;
        }

        /** The ports to which copies go, as bits; the port of arrival only if its entry is valid. */
        private int waysOut(int packet, int port) {
            int way = state.wayTo(history.target[packet], limits.age);
            if (way != NONE) {
                return 1 << way;
            }
            int ways = 0;
            for (int out = 0; out < limits.ports; out++) {
                if (out != port && state.hasLink(out)) {
                    ways |= 1 << out;
                }
            }
            return ways;
        }

        private int putCopy(int packet, int port) {
            int size = history.sizeOf(packet);
            if (state.allUnits() + size > limits.buffer) {
                log.addDrop(event, packet, port, BUFFER, NONE);
                return 0;
            }
            int over = state.units[port] + size - limits.capacity[port];
            if (over > 0 && unitsBelow(history.rankOf(packet), port) < over) {
                log.addDrop(event, packet, port, FULL, NONE);
                return 0;
            }
            for (int left = state.copies[port]; left > 0 && over > 0; left--) {
                int pushed = takeOut(port, leastImportant(port));
                log.addDrop(event, pushed, port, PUSHED, packet);
                over -= history.sizeOf(pushed);
            }
            state.putLast(port, packet, size);
            log.setFate(packet, port, IN_QUEUE);
            return 1;
        }

        private int unitsBelow(int rank, int port) {
            int below = 0;
            for (int k = 0; k < state.copies[port]; k++) {
                int packet = state.packetAt(port, k);
                if (history.rankOf(packet) < rank) {
                    below += history.sizeOf(packet);
                }
            }
            return below;
        }

        /** The place of the copy of the lowest class, of several the one nearest to the end. */
        private int leastImportant(int port) {
            int place = 0;
            int lowest = HIGHEST_CLASS;
            for (int k = 0; k < state.copies[port]; k++) {
                int rank = history.rankOf(state.packetAt(port, k));
                if (rank <= lowest) {
                    lowest = rank;
                    place = k;
                }
            }
            return place;
        }

        /** The place of the copy of the highest class, of several the one nearest to the beginning. */
        private int mostImportant(int port) {
            int place = 0;
            int highest = NONE;
            for (int k = 0; k < state.copies[port]; k++) {
                int rank = history.rankOf(state.packetAt(port, k));
                if (rank > highest) {
                    highest = rank;
                    place = k;
                }
            }
            return place;
        }

        private int takeOut(int port, int k) {
            int packet = state.packetAt(port, k);
            state.remove(port, k, history.sizeOf(packet));
            return packet;
        }

        private int passTick() {
            int all = 0;
            for (int port = 0; port < limits.ports; port++) {
                if (state.hasLink(port)) {
                    all += deliverFrom(port);
                }
            }
            for (int port = 0; port < limits.ports; port++) {
                dropStale(port);
            }
            for (int port = 0; port < limits.ports; port++) {
                if (limits.hasPolicer(port)) {
                    state.allowance[port] = Math.min(state.allowance[port] + limits.rate[port], limits.burst[port]);
                }
            }
            state.time++;
            return all;
        }

        private int deliverFrom(int port) {
            int number = Math.min(limits.speed[port], state.copies[port]);
            for (int k = 0; k < number; k++) {
                log.addDelivery(takeOut(port, mostImportant(port)), port);
            }
            return number;
        }

        private void dropStale(int port) {
            int k = 0;
            for (int left = state.copies[port]; left > 0; left--) {
                if (state.ageOf(port, k) >= limits.wait) {
                    log.addDrop(event, takeOut(port, k), port, STALE, NONE);
                } else {
                    k++;
                }
            }
        }

        private int loseLink(int port) {
            int lost = state.copies[port];
            for (int left = lost; left > 0; left--) {
                log.addDrop(event, takeOut(port, 0), port, LOST, NONE);
            }
            state.forget(port);
            state.setLink(port, false);
            return lost;
        }
    }

    /** What is supposed: other settings, and events that are left out. */
    private static final class Suppositions {
        // One place for each setting, so that a second supposition on it replaces the first.
        private static final int BUFFER_PLACE = MOST_PORTS;
        private static final int WAIT_PLACE = MOST_PORTS + 1;
        private static final int AGE_PLACE = MOST_PORTS + 2;
        private static final int RULE_PLACE = MOST_PORTS + 3;

        private final int[] values = new int[RULE_PLACE + MOST_RULES]; // NONE where none is made
        final boolean[] leftOut = new boolean[MOST_EVENTS];

        void clear() {
            Arrays.fill(values, NONE);
            for (int event = 0; event < MOST_EVENTS; event++) {
                leftOut[event] = false;
            }
        }

        void set(int what, int index, int value) {
            switch (what) {
                case OF_CAPACITY:
                    values[index] = value;
                    break;
                case OF_BUFFER:
                    values[BUFFER_PLACE] = value;
                    break;
                case OF_WAIT:
                    values[WAIT_PLACE] = value;
                    break;
                case OF_AGE:
                    values[AGE_PLACE] = value;
                    break;
                default:
                    values[RULE_PLACE + index] = 1;
                    break;
            }
        }

        int settings() {
            int made = 0;
            for (int place = 0; place < values.length; place++) {
                if (values[place] != NONE) {
                    made++;
                }
            }
            return made;
        }

        int eventsLeftOut() {
            int out = 0;
            for (int event = 0; event < MOST_EVENTS; event++) {
                if (leftOut[event]) {
                    out++;
                }
            }
            return out;
        }

        void changeLimits(Limits limits) {
            for (int port = 0; port < MOST_PORTS; port++) {
                limits.capacity[port] = valueOr(port, limits.capacity[port]);
            }
            limits.buffer = valueOr(BUFFER_PLACE, limits.buffer);
            limits.wait = valueOr(WAIT_PLACE, limits.wait);
            limits.age = valueOr(AGE_PLACE, limits.age);
            for (int rule = 0; rule < MOST_RULES; rule++) {
                if (values[RULE_PLACE + rule] != NONE) {
                    limits.idleRules |= 1 << rule;
                }
            }
        }

        private int valueOr(int place, int setting) {
            return values[place] != NONE ? values[place] : setting;
        }
    }

    /** The formatted text. */
    private static final class Line {
        static final int LONGEST_NAME = 6;
        // Six letters of five bits fit into an int, so that names are kept and compared as numbers.
        static final int LETTER_BITS = 5;

        // A queue of 99 copies takes the most: its name, and six bytes for each copy.
        final byte[] bytes = new byte[LONGEST_NAME + MOST_CAPACITY * 6];
        int length;

        void add(int sign) {
            if (length < bytes.length) {
                bytes[length] = (byte) sign;
                length++;
            }
        }

        void addWord(String word) {
            for (int k = 0; k < word.length(); k++) {
                add(word.charAt(k));
            }
        }

        /** Adds a number from 0 to 999. */
        void addNumber(int number) {
            if (number >= 100) {
                add('0' + number / 100 % 10);
            }
            if (number >= 10) {
                add('0' + number / 10 % 10);
            }
            add('0' + number % 10);
        }

        void addName(int name) {
            for (int shift = (LONGEST_NAME - 1) * LETTER_BITS; shift >= 0; shift -= LETTER_BITS) {
                int letter = name >> shift & (1 << LETTER_BITS) - 1;
                if (letter != 0) {
                    add('a' + letter - 1);
                }
            }
        }
    }
}
