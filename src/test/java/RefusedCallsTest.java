import java.util.ArrayList;
import java.util.List;

/** The document's sentences on exceptions: which one is thrown, and that a call that throws changes nothing. */
public final class RefusedCallsTest extends Due {
    private static final String TEXT = "port a 9 0;port b 4 1;police a 1 30;buffer 9;age 9;wait 9;drop if to=50;";

    private interface Use {
        void of(DropSwitch x);
    }

    /** A call that is told in words. */
    private static final class Named {
        final String name;
        final Use use;

        Named(String name, Use use) {
            this.name = name;
            this.use = use;
        }
    }

    private static Named named(String name, Use use) {
        return new Named(name, use);
    }

    // ---- switches to ask

    /** Two ports, a rule, six events, four packets and three drops, two suppositions, a formatted text, an error, an input. */
    private static DropSwitch small() {
        DropSwitch x = made(TEXT);
        x.arrive(0, 1, 2, 2, 0);
        x.arrive(0, 1, 50, 2, 3);
        x.tick();
        x.arrive(0, 5, 2, 3, 1);
        x.arrive(0, 1, 2, 4, 2);
        x.link(1, false);
        x.suppose(0, 1, 9);
        x.leaveOut(2);
        x.formatDrop(1);
        failedLoad(x, "age 1000;");
        x.append(0x61676520, 0x313b2020, 0x20202020, 0x20202020, 0x20202020);
        return x;
    }

    private static void failedLoad(DropSwitch x, String text) {
        feed(x, text);
        try {
            x.load();
        } catch (IllegalArgumentException e) {
            return;
        }
        same("load of " + text, "no exception", "an IllegalArgumentException");
    }

    /** The same with as many events as there can be. */
    private static DropSwitch full() {
        DropSwitch x = small();
        ticks(x, 114);
        return x;
    }

    /** The answers of all calls that only ask, and then of those that empty something. */
    private static String answers(DropSwitch x) {
        StringBuilder all = new StringBuilder();
        for (int what = 0; what < 6; what++) {
            all.append(x.count(what)).append(" ");
        }
        all.append(x.errorOffset()).append(" ").append(x.errorKind()).append(" text ").append(formatted(x));
        int events = Math.min(x.count(2), 8);
        for (int event = 0; event < events; event++) {
            all.append(" event ").append(x.eventKind(event)).append(" ").append(x.packetOf(event)).append(" ")
                    .append(x.repeats(event)).append(" ").append(x.fillAt(event, 1)).append(" ").append(x.portAt(event, 5));
        }
        all.append(" ").append(x.checkpoints()).append(" table ").append(x.tableSize()).append(x.portOf(1)).append(x.portOf(5));
        for (int packet = 0; packet < x.count(3); packet++) {
            all.append(" packet ").append(x.arrivalOf(packet)).append(x.firstDrop(packet)).append(x.pushedBy(packet));
        }
        for (int port = 0; port < x.count(0); port++) {
            all.append(" port ").append(x.fill(port)).append(" ").append(queue(x, port)).append(" ").append(x.isUp(port))
                    .append(x.tokens(port)).append(" ").append(x.delivered(port)).append(" ").append(x.peak(port))
                    .append(" ").append(x.supposedDelivered(port));
            for (int packet = 0; packet < x.count(3); packet++) {
                all.append(" ").append(x.fate(packet, port)).append(x.supposedFate(packet, port));
            }
        }
        all.append(" drops ").append(drops(x, 0)).append(" ").append(x.dropsByRule(0));
        for (int drop = 0; drop < x.count(4); drop++) {
            all.append(" ").append(evidence(x, drop)).append(":").append(x.leastCapacity(drop)).append(":").append(x.savingRules(drop));
        }
        for (int cause = 1; cause <= 10; cause++) {
            all.append(" ").append(x.dropsBy(cause)).append(x.supposedDropsBy(cause));
        }
        all.append(" supposed ").append(x.supposedDrops()).append(" ").append(x.saved()).append(" ").append(x.newlyDropped());
        x.rewind(x.count(2) == 120 ? 119 : x.count(2));
        all.append(" settings ").append(x.arrive(1, 60, 50, 1, 0)).append(x.load()).append(x.clearSuppositions());
        return all.toString();
    }

    // ---- the calls that throw

    /** Calls that are refused on either switch, with the exceptions that are due. */
    private static List<Named> outOfBounds() {
        List<Named> calls = new ArrayList<>();
        for (int port : new int[] {-1, 2, 4, MIN, MAX}) {
            calls.add(named("arrive(" + port + ", ..)", x -> x.arrive(port, 9, 9, 1, 0)));
            calls.add(named("link(" + port + ", true)", x -> x.link(port, true)));
            calls.add(named("link(" + port + ", false)", x -> x.link(port, false)));
            calls.add(named("fill(" + port + ")", x -> x.fill(port)));
            calls.add(named("queueLength(" + port + ")", x -> x.queueLength(port)));
            calls.add(named("queued(" + port + ", 0)", x -> x.queued(port, 0)));
            calls.add(named("isUp(" + port + ")", x -> x.isUp(port)));
            calls.add(named("tokens(" + port + ")", x -> x.tokens(port)));
            calls.add(named("delivered(" + port + ")", x -> x.delivered(port)));
            calls.add(named("fate(0, " + port + ")", x -> x.fate(0, port)));
            calls.add(named("fillAt(0, " + port + ")", x -> x.fillAt(0, port)));
            calls.add(named("peak(" + port + ")", x -> x.peak(port)));
            calls.add(named("suppose(0, " + port + ", 5)", x -> x.suppose(0, port, 5)));
            calls.add(named("supposedFate(0, " + port + ")", x -> x.supposedFate(0, port)));
            calls.add(named("supposedDelivered(" + port + ")", x -> x.supposedDelivered(port)));
            calls.add(named("formatQueue(" + port + ")", x -> x.formatQueue(port)));
        }
        for (int rule : new int[] {-1, 1, 8, MIN, MAX}) {
            calls.add(named("dropsByRule(" + rule + ")", x -> x.dropsByRule(rule)));
            calls.add(named("suppose(4, " + rule + ", 5)", x -> x.suppose(4, rule, 5)));
        }
        for (int packet : new int[] {-1, 4, 120, MIN, MAX}) {
            calls.add(named("arrivalOf(" + packet + ")", x -> x.arrivalOf(packet)));
            calls.add(named("fate(" + packet + ", 0)", x -> x.fate(packet, 0)));
            calls.add(named("firstDrop(" + packet + ")", x -> x.firstDrop(packet)));
            calls.add(named("pushedBy(" + packet + ")", x -> x.pushedBy(packet)));
            calls.add(named("supposedFate(" + packet + ", 0)", x -> x.supposedFate(packet, 0)));
        }
        for (int drop : new int[] {-1, 3, 360, MIN, MAX}) {
            calls.add(named("dropField(" + drop + ", 0)", x -> x.dropField(drop, 0)));
            calls.add(named("evidenceCount(" + drop + ")", x -> x.evidenceCount(drop)));
            calls.add(named("evidence(" + drop + ", 0)", x -> x.evidence(drop, 0)));
            calls.add(named("leastCapacity(" + drop + ")", x -> x.leastCapacity(drop)));
            calls.add(named("savingRules(" + drop + ")", x -> x.savingRules(drop)));
            calls.add(named("formatDrop(" + drop + ")", x -> x.formatDrop(drop)));
        }
        return calls;
    }

    private static List<Named> outOfEvents(int events) {
        List<Named> calls = new ArrayList<>();
        for (int event : new int[] {-1, events, MIN, MAX}) {
            calls.add(named("eventKind(" + event + ")", x -> x.eventKind(event)));
            calls.add(named("packetOf(" + event + ")", x -> x.packetOf(event)));
            calls.add(named("leaveOut(" + event + ")", x -> x.leaveOut(event)));
        }
        for (int event : new int[] {-1, events + 1, MIN, MAX}) {
            calls.add(named("repeats(" + event + ")", x -> x.repeats(event)));
            calls.add(named("fillAt(" + event + ", 0)", x -> x.fillAt(event, 0)));
            calls.add(named("portAt(" + event + ", 0)", x -> x.portAt(event, 0)));
        }
        return calls;
    }

    private static List<Named> badArguments(int events) {
        List<Named> calls = new ArrayList<>();
        for (int address : new int[] {-1, 64, MIN, MAX}) {
            calls.add(named("arrive from " + address, x -> x.arrive(0, address, 2, 1, 0)));
            calls.add(named("arrive to " + address, x -> x.arrive(0, 2, address, 1, 0)));
            calls.add(named("portOf(" + address + ")", x -> x.portOf(address)));
            calls.add(named("portAt(0, " + address + ")", x -> x.portAt(0, address)));
        }
        for (int size : new int[] {0, 10, MIN, MAX}) {
            calls.add(named("arrive with the size " + size, x -> x.arrive(0, 2, 1, size, 0)));
        }
        for (int rank : new int[] {-1, 4, MIN, MAX}) {
            calls.add(named("arrive with the class " + rank, x -> x.arrive(0, 2, 1, 1, rank)));
        }
        for (int left : new int[] {-1, events + 1, MIN, MAX}) {
            calls.add(named("rewind(" + left + ")", x -> x.rewind(left)));
        }
        for (int cause : new int[] {0, 11, MIN, MAX}) {
            calls.add(named("dropsBy(" + cause + ")", x -> x.dropsBy(cause)));
            calls.add(named("supposedDropsBy(" + cause + ")", x -> x.supposedDropsBy(cause)));
        }
        for (int what = 0; what < 4; what++) {
            int setting = what;
            for (int value : new int[] {setting == 3 ? -1 : 0, setting == 1 ? 401 : setting == 3 ? 1000 : 100, MIN, MAX}) {
                calls.add(named("suppose(" + setting + ", 1, " + value + ")", x -> x.suppose(setting, 1, value)));
            }
        }
        return calls;
    }

    private static List<Named> noSuchElements() {
        List<Named> calls = new ArrayList<>();
        for (int what : new int[] {-1, 6, MIN, MAX}) {
            calls.add(named("count(" + what + ")", x -> x.count(what)));
            calls.add(named("dropField(0, " + what + ")", x -> x.dropField(0, what)));
            calls.add(named("suppose(" + what + ", 0, 5)", x -> x.suppose(what, 0, 5)));
        }
        calls.add(named("dropField(0, 5)", x -> x.dropField(0, 5)));
        calls.add(named("suppose(5, 0, 5)", x -> x.suppose(5, 0, 5)));
        return calls;
    }

    private static List<Named> eventsWhenFull() {
        List<Named> calls = new ArrayList<>();
        calls.add(named("arrive", x -> x.arrive(0, 7, 8, 1, 0)));
        calls.add(named("tick", DropSwitch::tick));
        calls.add(named("link(1, true)", x -> x.link(1, true)));
        calls.add(named("link(0, false)", x -> x.link(0, false)));
        return calls;
    }

    // ---- the tests

    private static void refused(List<Named> calls, Class<?> want, boolean isFull, String before) {
        for (Named call : calls) {
            DropSwitch x = isFull ? full() : small();
            fails(call.name, want, () -> call.use.of(x));
            same("what is answered behind " + call.name, answers(x), before);
        }
    }

    private static void nothingChanges() {
        says("A call that throws changes nothing, except that load empties the buffer and sets the error.", () -> {
            String before = answers(small());
            refused(outOfBounds(), BOUNDS, false, before);
            refused(outOfEvents(6), BOUNDS, false, before);
            refused(badArguments(6), ARGUMENT, false, before);
            refused(noSuchElements(), ELEMENT, false, before);
            String full = answers(full());
            refused(eventsWhenFull(), STATE, true, full);
            refused(outOfEvents(120), BOUNDS, true, full);
            refused(badArguments(120), ARGUMENT, true, full);
            loads(before);
        });
    }

    private static void loads(String before) {
        String other = "port c 1 9;port d 1 9;port e 1 9;police c 9 9;buffer 1;age 0;wait 1;pass if any;drop if any;";
        for (String text : new String[] {"?", other + "?", other + "age", other + "age 1000;", other + "police a 1 1;"}) {
            DropSwitch x = small();
            x.truncate(0);
            failedLoad(x, text);
            same("the buffer is empty after " + text, x.truncate(1), false);
            same("the error of " + text, x.errorOffset() + " " + (x.errorKind() != 0),
                    (text.endsWith("?") ? text.length() - 1 : text.endsWith("age") ? text.length()
                            : text.endsWith("1000;") ? text.length() - 5 : text.length() - 6) + " true");
            failedLoad(x, "age 1000;");
            x.append(0x61676520, 0x313b2020, 0x20202020, 0x20202020, 0x20202020);
            same("all other answers after " + text, answers(x), before);
        }
    }

    private static void firstOfSeveral() {
        says("When several exceptions apply, the one that is listed first in the method's throws clause is thrown.", () -> {
            DropSwitch x = full();
            fails("arrive: port, source, 120 events", BOUNDS, () -> x.arrive(2, 64, 2, 1, 0));
            fails("arrive: port, class", BOUNDS, () -> x.arrive(-1, 1, 2, 1, 4));
            fails("arrive: port, 120 events", BOUNDS, () -> x.arrive(2, 1, 2, 1, 0));
            fails("arrive: source, 120 events", ARGUMENT, () -> x.arrive(0, 64, 2, 1, 0));
            fails("arrive: target, 120 events", ARGUMENT, () -> x.arrive(0, 1, -1, 1, 0));
            fails("arrive: size, 120 events", ARGUMENT, () -> x.arrive(0, 1, 2, 10, 0));
            fails("arrive: class, 120 events", ARGUMENT, () -> x.arrive(0, 1, 2, 1, -1));
            fails("link: port, 120 events", BOUNDS, () -> x.link(2, true));
            fails("dropField: drop, what", BOUNDS, () -> x.dropField(3, 5));
            fails("portAt: event, address", BOUNDS, () -> x.portAt(121, 64));
            fails("portAt: event below, address below", BOUNDS, () -> x.portAt(-1, -1));
            fails("fate: packet, port", BOUNDS, () -> x.fate(4, 2));
            fails("fillAt: event, port", BOUNDS, () -> x.fillAt(121, 2));
            fails("suppose: what, index, value", ELEMENT, () -> x.suppose(5, 9, 0));
            fails("suppose: what below, index, value", ELEMENT, () -> x.suppose(-1, -1, -1));
            fails("suppose: port, value", BOUNDS, () -> x.suppose(0, 2, 0));
            fails("suppose: port below, value", BOUNDS, () -> x.suppose(0, -1, 100));
            fails("suppose: rule, and a value that is ignored", BOUNDS, () -> x.suppose(4, 1, -1));
            fails("suppose: an index that is ignored, value", ARGUMENT, () -> x.suppose(1, -1, 0));
        });
    }

    private static void missing() {
        says("IndexOutOfBoundsException is thrown if a parameter named port, rule, packet, event or drop is not the number of an "
                + "existing one.", () -> {
            for (Named call : outOfBounds()) {
                fails(call.name, BOUNDS, () -> call.use.of(small()));
                fails(call.name + " on a new switch", BOUNDS, () -> call.use.of(new DropSwitch()));
            }
            for (Named call : outOfEvents(6)) {
                fails(call.name, BOUNDS, () -> call.use.of(small()));
            }
            for (Named call : outOfEvents(0)) {
                fails(call.name + " on a new switch", BOUNDS, () -> call.use.of(new DropSwitch()));
            }
            existing();
            afterRewind();
        });
    }

    /** The last one of each is there. */
    private static void existing() {
        DropSwitch x = small();
        same("port 1", x.fill(1) + " " + x.queueLength(1) + " " + x.queued(1, 0) + " " + x.isUp(1) + " " + x.tokens(1) + " "
                + x.delivered(1) + " " + x.fate(3, 1) + " " + x.fillAt(5, 1) + " " + x.peak(1), "0 0 -1 false -1 1 3 4 4");
        same("port 1 of the supposed run", x.supposedFate(3, 1) + " " + x.supposedDelivered(1), "3 0");
        same("rule 0", x.dropsByRule(0) + " " + x.suppose(4, 0, 0), "1 2");
        same("packet 3", x.arrivalOf(3) + " " + x.firstDrop(3) + " " + x.pushedBy(3), "4 2 1");
        same("event 5", x.eventKind(5) + " " + x.packetOf(5) + " " + x.repeats(6) + " " + x.leaveOut(5), "3 -1 6 2");
        same("drop 2", drop(x, 2) + " " + evidence(x, 2) + " " + x.leastCapacity(2) + " " + x.savingRules(2) + " "
                + x.formatDrop(2) + " " + formatted(x), "5 3 1 10 -1 4 5 -1 0 10 3@5 lost b");
        same("port 0 of 2, queue and event", x.formatQueue(1) + formatted(x) + x.arrive(1, 1, 2, 1, 0) + x.link(1, true), "1b00");
    }

    /** What a rewind removes is not there any more. */
    private static void afterRewind() {
        DropSwitch x = small();
        x.rewind(3);
        fails("packet 2", BOUNDS, () -> x.arrivalOf(2));
        fails("fate of packet 2", BOUNDS, () -> x.fate(2, 1));
        fails("event 3", BOUNDS, () -> x.eventKind(3));
        fails("leaving out event 3", BOUNDS, () -> x.leaveOut(3));
        fails("event 4 of the past", BOUNDS, () -> x.fillAt(4, 1));
        fails("drop 1", BOUNDS, () -> x.dropField(1, 0));
        fails("the explanation of drop 1", BOUNDS, () -> x.evidenceCount(1));
        same("what is left", x.arrivalOf(1) + " " + x.eventKind(2) + " " + drop(x, 0), "1 1 1 1 -1 2 0");
    }

    public static void main(String[] args) {
        firstOfSeveral();
        nothingChanges();
        missing();
        end("RefusedCallsTest");
    }
}
