import java.util.ArrayList;
import java.util.Comparator;
import java.util.HashMap;
import java.util.HashSet;
import java.util.List;
import java.util.Map;
import java.util.NoSuchElementException;
import java.util.Set;
import java.util.TreeMap;
import java.util.TreeSet;
import java.util.function.Predicate;

/**
 * The document told a second time, as plainly as can be: it keeps the events alone and works out
 * every answer by running all of them from the beginning. ModelTest holds DropSwitch against it.
 */
final class Model {
    static final int NONE = -1;
    private static final String[] CAUSES = {
        "", "down", "rule", "policed", "back", "nowhere", "buffer", "full", "pushed", "stale", "lost"
    };

    record Packet(int number, int port, int source, int target, int size, int rank) {}

    record Event(int kind, int port, Packet packet) {}

    record Rule(boolean drops, Predicate<Packet> holds) {}

    record Drop(int event, int packet, int port, int cause, int detail) {
        List<Integer> key() {
            return List.of(packet, port);
        }
    }

    record Copy(Packet packet, int since) {}

    record Entry(int port, int time) {}

    static final class Setup {
        final List<String> names = new ArrayList<>();
        final List<Integer> capacities = new ArrayList<>();
        final List<Integer> speeds = new ArrayList<>();
        final Map<Integer, int[]> policers = new HashMap<>();
        final List<Rule> rules = new ArrayList<>();
        int buffer = 400;
        int age = 100;
        int wait = 99;
    }

    // ---- the text

    static final class BadText extends RuntimeException {
        private static final long serialVersionUID = 1;
        final int offset;
        final int kind;

        BadText(int offset, int kind) {
            this.offset = offset;
            this.kind = kind;
        }
    }

    /** Reads a text; its tokens are cut out first, each with its offset. */
    static final class Parser {
        private final List<String> tokens = new ArrayList<>();
        private final List<Integer> offsets = new ArrayList<>();
        private int k = 0;
        private int open = 0;
        private final Setup setup = new Setup();

        Parser(String text) {
            int i = 0;
            while (i < text.length()) {
                int j = i + 1;
                char c = text.charAt(i);
                if (c == ' ' || c == '\t' || c == '\n') {
                    i++;
                    continue;
                }
                if (isLetter(c)) {
                    while (j < text.length() && isLetter(text.charAt(j))) {
                        j++;
                    }
                } else if (isDigit(c)) {
                    while (j < text.length() && isDigit(text.charAt(j))) {
                        j++;
                    }
                }
                tokens.add(text.substring(i, j));
                offsets.add(i);
                i = j;
            }
            tokens.add("");
            offsets.add(text.length());
        }

        private static boolean isLetter(char c) {
            return "abcdefghijklmnopqrstuvwxyz".indexOf(c) >= 0;
        }

        private static boolean isDigit(char c) {
            return "0123456789".indexOf(c) >= 0;
        }

        private BadText bad(int kind) {
            return new BadText(offsets.get(k), kind);
        }

        private boolean sees(String token) {
            return tokens.get(k).equals(token);
        }

        private void want(String token) {
            if (!sees(token)) {
                throw bad(DropSwitch.SYNTAX);
            }
            k++;
        }

        private int number(int least, int most) {
            String token = tokens.get(k);
            if (token.isEmpty() || !isDigit(token.charAt(0))) {
                throw bad(DropSwitch.SYNTAX);
            }
            if (token.length() > 3 || Integer.parseInt(token) < least || Integer.parseInt(token) > most) {
                throw bad(DropSwitch.BAD_NUMBER);
            }
            k++;
            return Integer.parseInt(token);
        }

        private String name(boolean isNew) {
            String token = tokens.get(k);
            if (token.isEmpty() || !isLetter(token.charAt(0)) || token.length() > 6) {
                throw bad(DropSwitch.SYNTAX);
            }
            if (setup.names.contains(token) == isNew) {
                throw bad(DropSwitch.BAD_NAME);
            }
            k++;
            return token;
        }

        Setup parse() {
            while (!sees("")) {
                line();
                want(";");
            }
            return setup;
        }

        private void line() {
            String first = tokens.get(k);
            switch (first) {
                case "port":
                    if (setup.names.size() == 4) {
                        throw bad(DropSwitch.TOO_MANY);
                    }
                    k++;
                    String name = name(true);
                    int capacity = number(1, 99);
                    int speed = number(0, 9);
                    setup.names.add(name);
                    setup.capacities.add(capacity);
                    setup.speeds.add(speed);
                    break;
                case "police":
                    k++;
                    int port = setup.names.indexOf(name(false));
                    setup.policers.put(port, new int[] {number(0, 99), number(0, 99)});
                    break;
                case "buffer":
                    k++;
                    setup.buffer = number(1, 400);
                    break;
                case "age":
                    k++;
                    setup.age = number(0, 999);
                    break;
                case "wait":
                    k++;
                    setup.wait = number(1, 99);
                    break;
                case "pass":
                case "drop":
                    if (setup.rules.size() == 8) {
                        throw bad(DropSwitch.TOO_MANY);
                    }
                    k++;
                    want("if");
                    setup.rules.add(new Rule(first.equals("drop"), condition()));
                    break;
                default:
                    throw bad(DropSwitch.SYNTAX);
            }
        }

        private Predicate<Packet> condition() {
            Predicate<Packet> result = all();
            while (sees("or")) {
                k++;
                result = result.or(all());
            }
            return result;
        }

        private Predicate<Packet> all() {
            Predicate<Packet> result = atom();
            while (sees("and")) {
                k++;
                result = result.and(atom());
            }
            return result;
        }

        private Predicate<Packet> atom() {
            String first = tokens.get(k);
            if (first.equals("not") || first.equals("(")) {
                if (open == 5) {
                    throw bad(DropSwitch.TOO_MANY);
                }
                open++;
                k++;
                Predicate<Packet> inner;
                if (first.equals("not")) {
                    inner = atom().negate();
                } else {
                    inner = condition();
                    want(")");
                }
                open--;
                return inner;
            }
            if (first.equals("any")) {
                k++;
                return p -> true;
            }
            if (first.equals("at")) {
                k++;
                int port = setup.names.indexOf(name(false));
                return p -> p.port() == port;
            }
            int what = List.of("from", "to", "size", "class").indexOf(first);
            if (what < 0) {
                throw bad(DropSwitch.SYNTAX);
            }
            k++;
            String sign = tokens.get(k);
            if (!Set.of("<", "=", ">").contains(sign)) {
                throw bad(DropSwitch.SYNTAX);
            }
            k++;
            int number = number(0, 999);
            return p -> {
                int value = List.of(p.source(), p.target(), p.size(), p.rank()).get(what);
                return sign.equals("<") ? value < number : sign.equals("=") ? value == number : value > number;
            };
        }
    }

    // ---- a run of events

    /** What differs from the settings in a run. */
    static final class Changes {
        final Map<Integer, Integer> capacities = new TreeMap<>();
        Integer buffer;
        Integer wait;
        Integer age;
        final Set<Integer> idleRules = new TreeSet<>();
        final Set<Integer> leftOut = new TreeSet<>();

        int settings() {
            return capacities.size() + (buffer != null ? 1 : 0) + (wait != null ? 1 : 0)
                    + (age != null ? 1 : 0) + idleRules.size();
        }
    }

    final class Course {
        int time = 0;
        final boolean[] down = new boolean[4];
        final int[] tokens = new int[4];
        final List<List<Copy>> queues = new ArrayList<>();
        final Map<Integer, Entry> table = new HashMap<>();
        final List<Drop> drops = new ArrayList<>();
        final Set<List<Integer>> deliveries = new HashSet<>();
        final List<int[]> fillsBehind = new ArrayList<>();
        final Changes changes;
        int event;

        Course(Changes changes, int end) {
            this.changes = changes;
            for (int port = 0; port < setup.names.size(); port++) {
                queues.add(new ArrayList<>());
                tokens[port] = setup.policers.containsKey(port) ? setup.policers.get(port)[1] : 0;
            }
            for (event = 0; event < end; event++) {
                Event e = events.get(event);
                if (!changes.leftOut.contains(event)) {
                    switch (e.kind()) {
                        case 0 -> arrival(e.packet());
                        case 1 -> tick();
                        default -> link(e.port(), e.kind() == 2);
                    }
                }
                int[] fills = new int[4];
                for (int port = 0; port < queues.size(); port++) {
                    fills[port] = fill(port);
                }
                fillsBehind.add(fills);
            }
        }

        int fill(int port) {
            return queues.get(port).stream().mapToInt(c -> c.packet().size()).sum();
        }

        int wayTo(int address) {
            Entry entry = table.get(address);
            int limit = changes.age != null ? changes.age : setup.age;
            return entry != null && time - entry.time() <= limit ? entry.port() : NONE;
        }

        private void drop(Packet p, int port, int cause, int detail) {
            drops.add(new Drop(event, p.number(), port, cause, detail));
        }

        private void arrival(Packet p) {
            if (down[p.port()]) {
                drop(p, NONE, DropSwitch.DOWN, NONE);
                return;
            }
            for (int r = 0; r < setup.rules.size(); r++) {
                if (!changes.idleRules.contains(r) && setup.rules.get(r).holds().test(p)) {
                    if (setup.rules.get(r).drops()) {
                        drop(p, NONE, DropSwitch.RULE, r);
                        return;
                    }
                    break;
                }
            }
            if (setup.policers.containsKey(p.port())) {
                if (tokens[p.port()] < p.size()) {
                    drop(p, NONE, DropSwitch.POLICED, NONE);
                    return;
                }
                tokens[p.port()] -= p.size();
            }
            table.put(p.source(), new Entry(p.port(), time));
            int way = wayTo(p.target());
            List<Integer> ways = new ArrayList<>();
            if (way == p.port()) {
                drop(p, NONE, DropSwitch.BACK, NONE);
                return;
            }
            if (way != NONE) {
                ways.add(way);
            } else {
                for (int port = 0; port < queues.size(); port++) {
                    if (port != p.port() && !down[port]) {
                        ways.add(port);
                    }
                }
                if (ways.isEmpty()) {
                    drop(p, NONE, DropSwitch.NOWHERE, NONE);
                    return;
                }
            }
            for (int port : ways) {
                offer(p, port);
            }
        }

        private void offer(Packet p, int port) {
            int all = 0;
            for (int q = 0; q < queues.size(); q++) {
                all += fill(q);
            }
            if (all + p.size() > (changes.buffer != null ? changes.buffer : setup.buffer)) {
                drop(p, port, DropSwitch.BUFFER, NONE);
                return;
            }
            int capacity = changes.capacities.getOrDefault(port, setup.capacities.get(port));
            List<Copy> queue = queues.get(port);
            int staying = queue.stream().filter(c -> c.packet().rank() >= p.rank())
                    .mapToInt(c -> c.packet().size()).sum();
            if (staying + p.size() > capacity) {
                drop(p, port, DropSwitch.FULL, NONE);
                return;
            }
            List<Copy> victims = new ArrayList<>();
            for (int k = queue.size() - 1; k >= 0; k--) {
                if (queue.get(k).packet().rank() < p.rank()) {
                    victims.add(queue.get(k));
                }
            }
            victims.sort(Comparator.comparingInt(c -> c.packet().rank()));
            for (Copy victim : victims) {
                if (fill(port) + p.size() > capacity) {
                    queue.remove(victim);
                    drop(victim.packet(), port, DropSwitch.PUSHED, p.number());
                }
            }
            queue.add(new Copy(p, time));
        }

        private void tick() {
            for (int port = 0; port < queues.size(); port++) {
                List<Copy> queue = queues.get(port);
                List<Copy> order = new ArrayList<>(queue);
                order.sort(Comparator.comparingInt(c -> -c.packet().rank()));
                for (int k = 0; k < order.size() && k < setup.speeds.get(port) && !down[port]; k++) {
                    queue.remove(order.get(k));
                    deliveries.add(List.of(order.get(k).packet().number(), port));
                }
            }
            int limit = changes.wait != null ? changes.wait : setup.wait;
            for (int port = 0; port < queues.size(); port++) {
                for (Copy c : new ArrayList<>(queues.get(port))) {
                    if (time - c.since() >= limit) {
                        queues.get(port).remove(c);
                        drop(c.packet(), port, DropSwitch.STALE, NONE);
                    }
                }
            }
            for (int port : setup.policers.keySet()) {
                int[] policer = setup.policers.get(port);
                tokens[port] = Math.min(tokens[port] + policer[0], policer[1]);
            }
            time++;
        }

        private void link(int port, boolean goesUp) {
            down[port] = !goesUp;
            if (!goesUp) {
                for (Copy c : queues.get(port)) {
                    drop(c.packet(), port, DropSwitch.LOST, NONE);
                }
                queues.get(port).clear();
                table.values().removeIf(e -> e.port() == port);
            }
        }

        int fate(int packet, int port) {
            List<Integer> key = List.of(packet, port);
            if (dropKeys().contains(key)) {
                return 3;
            }
            if (deliveries.contains(key)) {
                return 2;
            }
            return queues.get(port).stream().anyMatch(c -> c.packet().number() == packet) ? 1 : 0;
        }

        int delivered(int port) {
            return (int) deliveries.stream().filter(d -> d.get(1) == port).count();
        }

        int dropsBy(int cause) {
            return (int) drops.stream().filter(d -> d.cause() == cause).count();
        }

        Set<List<Integer>> dropKeys() {
            Set<List<Integer>> keys = new HashSet<>();
            for (Drop d : drops) {
                keys.add(d.key());
            }
            return keys;
        }
    }

    // ---- the face

    private StringBuilder input = new StringBuilder();
    private Setup setup = new Setup();
    private final List<Event> events = new ArrayList<>();
    private Changes suppositions = new Changes();
    private int badOffset = NONE;
    private int badKind = 0;
    private String formatted = "";
    private Course present = new Course(new Changes(), 0);
    private Course supposed = null;

    private void changed() {
        present = new Course(new Changes(), events.size());
        supposed = null;
    }

    private Course supposed() {
        if (supposed == null) {
            supposed = new Course(suppositions, events.size());
        }
        return supposed;
    }

    private static void bound(int k, int size) {
        if (k < 0 || k >= size) {
            throw new IndexOutOfBoundsException();
        }
    }

    private static void range(int k, int least, int most) {
        if (k < least || k > most) {
            throw new IllegalArgumentException();
        }
    }

    private List<Packet> packets() {
        return events.stream().filter(e -> e.kind() == 0).map(Event::packet).toList();
    }

    private void port(int port) {
        bound(port, setup.names.size());
    }

    private Drop drop(int drop) {
        bound(drop, present.drops.size());
        return present.drops.get(drop);
    }

    private void room() {
        if (events.size() == 120) {
            throw new IllegalStateException();
        }
    }

    public int append(int w0, int w1, int w2, int w3, int w4) {
        if (input.length() > 580) {
            return NONE;
        }
        for (int w : new int[] {w0, w1, w2, w3, w4}) {
            input.append((char) (w >>> 24)).append((char) (w >> 16 & 255));
            input.append((char) (w >> 8 & 255)).append((char) (w & 255));
        }
        return input.length();
    }

    public boolean truncate(int length) {
        if (length < 0 || length > input.length()) {
            return false;
        }
        input.setLength(length);
        return true;
    }

    public int load() {
        String text = input.toString();
        input = new StringBuilder();
        try {
            setup = new Parser(text).parse();
        } catch (BadText e) {
            badOffset = e.offset;
            badKind = e.kind;
            throw new IllegalArgumentException();
        }
        badOffset = NONE;
        badKind = 0;
        events.clear();
        suppositions = new Changes();
        changed();
        return setup.names.size();
    }

    public int errorOffset() {
        return badOffset;
    }

    public int errorKind() {
        return badKind;
    }

    public int count(int what) {
        switch (what) {
            case 0: return setup.names.size();
            case 1: return setup.rules.size();
            case 2: return events.size();
            case 3: return packets().size();
            case 4: return present.drops.size();
            case 5: return present.time;
            default: throw new NoSuchElementException();
        }
    }

    public int arrive(int port, int source, int target, int size, int rank) {
        port(port);
        range(source, 0, 63);
        range(target, 0, 63);
        range(size, 1, 9);
        range(rank, 0, 3);
        room();
        int number = packets().size();
        events.add(new Event(0, port, new Packet(number, port, source, target, size, rank)));
        changed();
        int put = 0;
        for (int out = 0; out < setup.names.size(); out++) {
            put += present.fate(number, out) == 1 ? 1 : 0;
        }
        return put;
    }

    public int tick() {
        room();
        int before = present.deliveries.size();
        events.add(new Event(1, NONE, null));
        changed();
        return present.deliveries.size() - before;
    }

    public int link(int port, boolean isUp) {
        port(port);
        room();
        int before = present.drops.size();
        events.add(new Event(isUp ? 2 : 3, port, null));
        changed();
        return present.drops.size() - before;
    }

    public int rewind(int count) {
        range(count, 0, events.size());
        while (events.size() > count) {
            events.remove(events.size() - 1);
        }
        suppositions = new Changes();
        changed();
        return present.drops.size();
    }

    public int eventKind(int event) {
        bound(event, events.size());
        return events.get(event).kind();
    }

    public int packetOf(int event) {
        bound(event, events.size());
        return events.get(event).packet() == null ? NONE : events.get(event).packet().number();
    }

    public int arrivalOf(int packet) {
        bound(packet, packets().size());
        int event = 0;
        while (packetOf(event) != packet) {
            event++;
        }
        return event;
    }

    public int fill(int port) {
        port(port);
        return present.fill(port);
    }

    public int queueLength(int port) {
        port(port);
        return present.queues.get(port).size();
    }

    public int queued(int port, int k) {
        port(port);
        List<Copy> queue = present.queues.get(port);
        return k >= 0 && k < queue.size() ? queue.get(k).packet().number() : NONE;
    }

    public boolean isUp(int port) {
        port(port);
        return !present.down[port];
    }

    public int tokens(int port) {
        port(port);
        return setup.policers.containsKey(port) ? present.tokens[port] : NONE;
    }

    public int portOf(int address) {
        range(address, 0, 63);
        return present.wayTo(address);
    }

    public int tableSize() {
        int size = 0;
        for (int address : present.table.keySet()) {
            size += present.wayTo(address) != NONE ? 1 : 0;
        }
        return size;
    }

    public int delivered(int port) {
        port(port);
        return present.delivered(port);
    }

    public int fate(int packet, int port) {
        bound(packet, packets().size());
        port(port);
        return present.fate(packet, port);
    }

    public int dropField(int drop, int what) {
        Drop d = drop(drop);
        switch (what) {
            case 0: return d.event();
            case 1: return d.packet();
            case 2: return d.port();
            case 3: return d.cause();
            case 4: return d.detail();
            default: throw new NoSuchElementException();
        }
    }

    public int firstDrop(int packet) {
        bound(packet, packets().size());
        for (int k = 0; k < present.drops.size(); k++) {
            if (present.drops.get(k).packet() == packet) {
                return k;
            }
        }
        return NONE;
    }

    public int dropsBy(int cause) {
        range(cause, 1, 10);
        return present.dropsBy(cause);
    }

    public int dropsByRule(int rule) {
        bound(rule, setup.rules.size());
        return (int) present.drops.stream()
                .filter(d -> d.cause() == DropSwitch.RULE && d.detail() == rule).count();
    }

    public int pushedBy(int packet) {
        bound(packet, packets().size());
        return (int) present.drops.stream()
                .filter(d -> d.cause() == DropSwitch.PUSHED && d.detail() == packet).count();
    }

    public int checkpoints() {
        int kept = 0;
        for (int event = 0; event < events.size(); event++) {
            kept += event % 16 == 0 ? 1 : 0;
        }
        return kept;
    }

    public int repeats(int event) {
        bound(event, events.size() + 1);
        int best = 0;
        for (int c = 0; c <= event && c < events.size(); c += 16) {
            best = c;
        }
        return event - best;
    }

    public int fillAt(int event, int port) {
        bound(event, events.size() + 1);
        port(port);
        return new Course(new Changes(), event).fill(port);
    }

    public int portAt(int event, int address) {
        bound(event, events.size() + 1);
        range(address, 0, 63);
        return new Course(new Changes(), event).wayTo(address);
    }

    public int peak(int port) {
        port(port);
        int greatest = 0;
        int first = NONE;
        for (int event = 0; event < events.size(); event++) {
            if (present.fillsBehind.get(event)[port] > greatest) {
                greatest = present.fillsBehind.get(event)[port];
                first = event;
            }
        }
        return first;
    }

    public int suppose(int what, int index, int value) {
        switch (what) {
            case 0:
                port(index);
                range(value, 1, 99);
                suppositions.capacities.put(index, value);
                break;
            case 1:
                range(value, 1, 400);
                suppositions.buffer = value;
                break;
            case 2:
                range(value, 1, 99);
                suppositions.wait = value;
                break;
            case 3:
                range(value, 0, 999);
                suppositions.age = value;
                break;
            case 4:
                bound(index, setup.rules.size());
                suppositions.idleRules.add(index);
                break;
            default:
                throw new NoSuchElementException();
        }
        supposed = null;
        return suppositions.settings();
    }

    public int leaveOut(int event) {
        bound(event, events.size());
        suppositions.leftOut.add(event);
        supposed = null;
        return suppositions.leftOut.size();
    }

    public int clearSuppositions() {
        int ended = suppositions.settings() + suppositions.leftOut.size();
        suppositions = new Changes();
        supposed = null;
        return ended;
    }

    public int supposedDrops() {
        return supposed().drops.size();
    }

    public int supposedDropsBy(int cause) {
        range(cause, 1, 10);
        return supposed().dropsBy(cause);
    }

    public int supposedFate(int packet, int port) {
        bound(packet, packets().size());
        port(port);
        return supposed().fate(packet, port);
    }

    public int supposedDelivered(int port) {
        port(port);
        return supposed().delivered(port);
    }

    public int saved() {
        Set<List<Integer>> keys = supposed().dropKeys();
        return (int) present.drops.stream().filter(d -> !keys.contains(d.key())).count();
    }

    public int newlyDropped() {
        Set<List<Integer>> keys = present.dropKeys();
        return (int) supposed().drops.stream().filter(d -> !keys.contains(d.key())).count();
    }

    private List<Integer> evidenceFor(Drop drop) {
        List<Integer> found = new ArrayList<>();
        for (int event = 0; event < events.size(); event++) {
            Changes one = new Changes();
            one.leftOut.add(event);
            if (!new Course(one, events.size()).dropKeys().contains(drop.key())) {
                found.add(event);
            }
        }
        return found;
    }

    public int evidenceCount(int drop) {
        return evidenceFor(drop(drop)).size();
    }

    public int evidence(int drop, int k) {
        List<Integer> found = evidenceFor(drop(drop));
        return k >= 0 && k < found.size() ? found.get(k) : NONE;
    }

    public int leastCapacity(int drop) {
        Drop d = drop(drop);
        for (int capacity = 1; capacity <= 99 && d.port() != NONE; capacity++) {
            Changes one = new Changes();
            one.capacities.put(d.port(), capacity);
            if (!new Course(one, events.size()).dropKeys().contains(d.key())) {
                return capacity;
            }
        }
        return NONE;
    }

    public int savingRules(int drop) {
        Drop d = drop(drop);
        int saving = 0;
        for (int rule = 0; rule < setup.rules.size(); rule++) {
            Changes one = new Changes();
            one.idleRules.add(rule);
            if (!new Course(one, events.size()).dropKeys().contains(d.key())) {
                saving += 1 << rule;
            }
        }
        return saving;
    }

    public int formatDrop(int drop) {
        Drop d = drop(drop);
        formatted = d.packet() + "@" + d.event() + " " + CAUSES[d.cause()]
                + (d.detail() == NONE ? "" : "=" + d.detail())
                + (d.port() == NONE ? "" : " " + setup.names.get(d.port()));
        return formatted.length();
    }

    public int formatQueue(int port) {
        port(port);
        formatted = setup.names.get(port);
        for (Copy c : present.queues.get(port)) {
            formatted += " " + c.packet().number() + "." + c.packet().rank();
        }
        return formatted.length();
    }

    public int formattedByte(int index) {
        return index >= 0 && index < formatted.length() ? formatted.charAt(index) : NONE;
    }
}
