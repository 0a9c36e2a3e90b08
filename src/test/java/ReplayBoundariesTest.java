/** Replays, suppositions, evidence and formatted text: for each sentence that names a boundary case a test of its own. */
public final class ReplayBoundariesTest extends Due {
    // ---- the whole object

    private static void manyCalls() {
        says("An object is used for at most 512 calls after it has been made; what later calls answer is free.", () -> {
            DropSwitch x = made("port a 9 0;port b 99 1;"); // 4 calls: two of append, truncate and load
            for (int k = 0; k < 100; k++) { // 500 calls
                x.arrive(0, k % 64, 60 + k % 2, 1 + k % 9, k % 4);
                x.tick();
                x.fillAt(x.count(2), 1);
                x.rewind(k % 2);
            }
            x.rewind(0);
            x.arrive(0, 1, 2, 5, 3);
            packets(x, 5, 0, 1, 2, 1, 0);
            same("the 512th call", x.fill(1), 10);
        });
    }

    // ---- checkpoints and replays

    /** A switch with that many events: of each three two packets for b, and a tick. */
    private static DropSwitch busy(int events) {
        DropSwitch x = made("port a 9 0;port b 90 1;port c 9 0;age 7;");
        for (int event = 0; event < events; event++) {
            busyEvent(x, event);
        }
        return x;
    }

    private static void busyEvent(DropSwitch x, int event) {
        if (event == 0) {
            x.arrive(1, 60, 60, 1, 0);
        } else if (event % 3 == 2) {
            x.tick();
        } else {
            x.arrive(event % 2 * 2, event % 50, 60, 1 + event % 4, event % 5 % 4);
        }
    }

    private static void states() {
        says("The state ahead of an event is the state that all earlier events have made; the state behind all events is "
                + "the present one.", () -> {
            DropSwitch x = busy(0);
            int[] fills = new int[121];
            for (int event = 0; event < 120; event++) {
                busyEvent(x, event);
                fills[event + 1] = x.fill(1);
            }
            for (int event = 0; event <= 120; event++) {
                same("fillAt(" + event + ", 1)", x.fillAt(event, 1), fills[event]);
            }
            DropSwitch y = busy(0);
            int[] ports = new int[121];
            ports[0] = -1;
            for (int event = 0; event < 120; event++) {
                busyEvent(y, event);
                ports[event + 1] = y.portOf(event % 50);
            }
            for (int event = 1; event <= 120; event++) {
                same("portAt(" + event + ", ..)", y.portAt(event, (event - 1) % 50), ports[event]);
            }
        });
        says("A checkpoint keeps the state ahead of each event whose number is a multiple of 16.", () -> {
            DropSwitch x = busy(120);
            for (int event = 0; event < 120; event++) {
                same("repeats(" + event + ")", x.repeats(event), event % 16);
            }
            same("repeats(120)", x.repeats(120), 8);
        });
        says("(They have no other effect than that replays can begin there.)", () -> {
            DropSwitch x = made("port a 9 0;port b 99 0;");
            x.tick();
            packets(x, 39, 0, 1, 2, 1, 0);
            for (int left : new int[] {33, 32, 31, 17, 16, 15, 1}) {
                x.rewind(left);
                packets(x, 34 - left, 0, 1, 2, 2, 0);
                same("other events from " + left + " on", x.fillAt(34, 1) + " " + x.fillAt(33, 1) + " " + x.fillAt(left, 1),
                        (67 - left) + " " + (65 - left) + " " + (left - 1));
                x.rewind(left);
                packets(x, 34 - left, 0, 1, 2, 1, 0);
            }
            DropSwitch y = made("port a 9 0;port b 20 0;");
            packets(y, 20, 0, 1, 2, 1, 0);
            packets(y, 1, 0, 1, 2, 1, 0);
            same("evidence ahead of a checkpoint and behind it", y.evidenceCount(0) + " " + y.evidence(0, 0) + " "
                    + y.evidence(0, 15) + " " + y.evidence(0, 16) + " " + y.evidence(0, 20), "21 0 15 16 20");
            same("the supposed run does not begin there", y.suppose(0, 1, 10) + " " + y.supposedDrops(), "1 11");
            DropSwitch z = made("port a 9 0;port b 20 0;");
            packets(z, 20, 0, 1, 2, 1, 0);
            z.tick();
            packets(z, 1, 0, 1, 2, 1, 0);
            same("an event behind a checkpoint that does nothing", z.evidenceCount(0) + " " + z.evidence(0, 19) + " " + z.evidence(0, 20), "21 19 21");
            queuesAtCheckpoints();
        });
    }

    /** Each port has copies of its own in its queue at a checkpoint; behind it they are stale or lost. */
    private static void queuesAtCheckpoints() {
        for (int port = 0; port < 4; port++) {
            DropSwitch x = made("port a 20 0;port b 20 0;port c 20 0;port d 20 0;wait 3;");
            x.arrive(port, 5, 60, 1, 0);
            x.tick();
            for (int other = 0; other < 4; other++) {
                x.arrive(other, 10 + other, 61, 1, other);
            }
            packets(x, 12, port, 5, 5, 1, 0);
            same("a checkpoint is kept for event 16", x.count(2) + " " + x.checkpoints(), "18 2");
            x.tick();
            x.link(port, false);
            x.tick();
            x.tick();
            // Twelve packets went back; three copies are lost, three of packet 0 and the nine others stay too long.
            int first = 12;
            same("lost ones of " + port, x.dropsBy(DropSwitch.LOST) + " " + drop(x, first) + ": " + evidence(x, first),
                    "3 19 " + (port == 0 ? 2 : 1) + " " + port + " 10 -1: " + (port == 0 ? "3 19" : "2 19"));
            int stale = first + 3;
            int out = port == 0 ? 1 : 0;
            same("stale ones of " + port, drop(x, stale) + ": " + evidence(x, stale), "21 0 " + out + " 9 -1: 0 1 18 20 21");
        }
    }

    private static void replays() {
        says("Returns the number of checkpoints that are kept: those ahead of events that have happened.", () -> {
            DropSwitch x = new DropSwitch();
            int[][] due = {{0, 0}, {1, 1}, {15, 1}, {16, 1}, {17, 2}, {32, 2}, {33, 3}, {112, 7}, {113, 8}, {119, 8}, {120, 8}};
            for (int[] pair : due) {
                ticks(x, pair[0] - x.count(2));
                same("with " + pair[0] + " events", x.checkpoints(), pair[1]);
            }
            for (int k = due.length - 1; k >= 0; k--) {
                x.rewind(due[k][0]);
                same("rewound to " + due[k][0], x.checkpoints(), due[k][1]);
            }
        });
        says("Returns the number of events that a replay from the latest checkpoint that is kept for this event or an earlier "
                + "one has to repeat to reach the state ahead of the event.", () -> {
            DropSwitch x = new DropSwitch();
            same("no events", x.repeats(0), 0);
            ticks(x, 1);
            same("one event", x.repeats(0) + " " + x.repeats(1), "0 1");
            ticks(x, 15);
            same("no checkpoint is kept for event 16 yet", x.repeats(15) + " " + x.repeats(16), "15 16");
            ticks(x, 1);
            same("now there is one", x.repeats(15) + " " + x.repeats(16) + " " + x.repeats(17), "15 0 1");
            ticks(x, 95);
            same("nor for event 112", x.repeats(111) + " " + x.repeats(112), "15 16");
            ticks(x, 1);
            same("the last checkpoint", x.repeats(112) + " " + x.repeats(113), "0 1");
            x.rewind(16);
            same("none is kept after a rewind", x.repeats(16), 16);
        });
        says("- `event`: a number of an event, or the number of all events for the present state", () -> {
            DropSwitch x = made("port a 9 0;port b 9 0;");
            same("no events", x.repeats(0) + " " + x.fillAt(0, 1) + " " + x.portAt(0, 1), "0 0 -1");
            for (int event : new int[] {-1, 1, MIN, MAX}) {
                fails("repeats(" + event + ")", BOUNDS, () -> x.repeats(event));
                fails("fillAt(" + event + ", 1)", BOUNDS, () -> x.fillAt(event, 1));
                fails("portAt(" + event + ", 1)", BOUNDS, () -> x.portAt(event, 1));
            }
            packets(x, 3, 0, 1, 2, 1, 0);
            same("the last event", x.repeats(2) + " " + x.fillAt(2, 1) + " " + x.portAt(2, 1), "2 2 0");
            same("the present state", x.repeats(3) + " " + x.fillAt(3, 1) + " " + x.portAt(3, 1), "3 3 0");
            for (int event : new int[] {-1, 4, MIN, MAX}) {
                fails("repeats(" + event + ") of 3", BOUNDS, () -> x.repeats(event));
                fails("fillAt(" + event + ", 1) of 3", BOUNDS, () -> x.fillAt(event, 1));
                fails("portAt(" + event + ", 1) of 3", BOUNDS, () -> x.portAt(event, 1));
            }
        });
        says("Returns the fill of the queue in the state ahead of the event.", () -> {
            DropSwitch x = made("port a 9 0;port b 99 9;");
            packets(x, 11, 0, 1, 2, 9, 0);
            x.tick();
            x.link(1, false);
            same("ahead of all events", x.fillAt(0, 1), 0);
            same("full", x.fillAt(11, 1) + " " + x.fillAt(11, 0), "99 0");
            same("after deliveries, and when all is lost", x.fillAt(12, 1) + " " + x.fillAt(13, 1), "18 0");
        });
        says("Returns the port of the valid entry of the table for the address in the state ahead of the event; `NONE` if there "
                + "is none.", () -> {
            DropSwitch x = made("port a 9 0;port b 9 0;age 2;");
            x.arrive(0, 63, 60, 1, 0);
            ticks(x, 3);
            x.arrive(1, 63, 60, 1, 0);
            x.arrive(1, 0, 60, 1, 0);
            same("ahead of its packet, and behind it", x.portAt(0, 63) + " " + x.portAt(1, 63), "-1 0");
            same("at the age limit, and older", x.portAt(3, 63) + " " + x.portAt(4, 63), "0 -1");
            same("replaced", x.portAt(5, 63) + " " + x.portAt(6, 63), "1 1");
            same("the first address", x.portAt(5, 0) + " " + x.portAt(6, 0), "-1 1");
        });
        says("Returns the number of the first event in which the fill of the queue of the port became the greatest that it has "
                + "been; `NONE` if it has always been 0.", () -> {
            DropSwitch x = made("port a 9 0;port b 5 9;");
            same("no events", x.peak(1), -1);
            x.arrive(0, 1, 2, 3, 0);
            same("event 0", x.peak(1) + " " + x.peak(0), "0 -1");
            x.tick();
            same("empty again", x.peak(1), 0);
            x.arrive(0, 1, 2, 3, 0);
            same("as great again", x.peak(1), 0);
            x.arrive(0, 1, 2, 1, 0);
            same("greater by one", x.peak(1), 3);
            x.arrive(0, 1, 2, 2, 0);
            same("a copy that was dropped", x.peak(1), 3);
            x.arrive(0, 1, 2, 5, 1);
            same("full by pushing", x.peak(1), 5);
            x.arrive(0, 1, 2, 5, 2);
            same("full again", x.peak(1), 5);
            x.rewind(5);
            same("rewound", x.peak(1), 3);
            x.rewind(0);
            same("always 0", x.peak(1), -1);
            DropSwitch y = made("port a 9 1;port b 9 1;port c 9 1;port d 9 1;");
            y.tick();
            y.arrive(0, 1, 60, 1, 0);
            y.arrive(3, 2, 60, 1, 0);
            y.arrive(2, 2, 60, 1, 0);
            y.tick();
            same("a fill of 1, 3, 2 and 2", y.peak(0) + " " + y.peak(1) + " " + y.peak(2) + " " + y.peak(3), "3 3 2 3");
            y.rewind(2);
            same("a fill of 0, 1, 1 and 1", y.peak(0) + " " + y.peak(1) + " " + y.peak(2) + " " + y.peak(3), "-1 1 1 1");
        });
    }

    // ---- suppositions

    private static void suppositions() {
        says("Suppositions replace settings: the capacity of a port, the buffer, the wait limit, the age limit, or that a rule "
                + "does not hold for any packet; another one leaves out an event (it does not happen; a packet that does not "
                + "arrive keeps its number).", () -> {
            DropSwitch x = made("port a 9 0;port b 9 1;age 1;wait 2;");
            x.arrive(0, 1, 2, 1, 0);
            x.arrive(0, 5, 2, 1, 0);
            x.tick();
            x.tick();
            x.arrive(1, 2, 5, 1, 0);
            x.leaveOut(0);
            same("the first event", x.supposedFate(0, 1) + " " + x.supposedFate(1, 1) + " " + x.supposedFate(2, 0), "0 2 1");
            x.leaveOut(4);
            same("the last event", x.supposedFate(1, 1) + " " + x.supposedFate(2, 0), "2 0");
            x.leaveOut(2);
            x.leaveOut(3);
            same("all but one", x.supposedFate(0, 1) + " " + x.supposedFate(1, 1) + " " + x.supposedDelivered(1), "0 1 0");
            x.leaveOut(1);
            same("all events", x.supposedFate(1, 1) + " " + x.supposedDrops(), "0 0");
            DropSwitch y = made("port a 9 0;port b 9 0;port c 9 0;age 1;wait 2;");
            y.arrive(0, 1, 2, 1, 0);
            ticks(y, 3);
            y.arrive(1, 2, 1, 1, 0);
            same("three ticks pass", y.dropsBy(DropSwitch.STALE) + " " + y.fate(1, 2), "2 1");
            y.leaveOut(2);
            same("two do", y.supposedDrops() + " " + y.supposedFate(1, 2), "0 1");
            y.leaveOut(3);
            same("one does: the entry is still valid", y.supposedFate(1, 0) + " " + y.supposedFate(1, 2), "1 0");
            DropSwitch z = made("port a 9 0;port b 9 0;drop if to=2;drop if to=2;");
            z.arrive(0, 1, 2, 1, 0);
            z.suppose(4, 0, 0);
            same("the next rule holds", z.supposedDropsBy(DropSwitch.RULE), 1);
            z.suppose(4, 1, 0);
            same("no rule holds", z.supposedDrops() + " " + z.supposedFate(0, 1), "0 1");
        });
        says("Several suppositions can be made together; they do not change the present state.", () -> {
            DropSwitch x = made("port a 9 0;port b 5 1;port c 9 0;buffer 8;age 9;wait 9;drop if to=9;");
            x.arrive(0, 1, 60, 4, 0);
            x.arrive(0, 1, 9, 1, 0);
            x.tick();
            x.arrive(0, 1, 60, 4, 0);
            String before = drops(x, 0) + "; " + queue(x, 1) + "; " + queue(x, 2) + "; " + x.tableSize();
            x.suppose(0, 1, 1);
            x.suppose(0, 2, 99);
            x.suppose(1, 0, 400);
            x.suppose(2, 0, 1);
            x.suppose(3, 0, 0);
            x.suppose(4, 0, 0);
            x.leaveOut(2);
            same("all together", x.supposedDrops() + " " + x.supposedFate(0, 1) + " " + x.supposedFate(1, 2) + " "
                    + x.supposedFate(2, 2), "2 3 1 1");
            same("the present state", drops(x, 0) + "; " + queue(x, 1) + "; " + queue(x, 2) + "; " + x.tableSize(), before);
            same("present drops", before, "1 1 -1 2 0; 3 2 2 6 -1; 2; 0; 1");
            same("the past", x.fillAt(2, 1) + " " + x.fillAt(3, 1) + " " + x.portAt(4, 1), "4 0 0");
            same("later events", x.arrive(0, 1, 9, 1, 0) + " " + x.arrive(0, 1, 60, 4, 0), "0 0");
        });
        says("In the supposed run all events happen from the beginning, with the suppositions.", () -> {
            DropSwitch x = made("port a 9 0;port b 50 0;");
            packets(x, 33, 0, 1, 2, 1, 0);
            x.suppose(0, 1, 32);
            same("a drop of the last event", x.supposedDrops() + " " + x.supposedFate(32, 1), "1 3");
            x.suppose(0, 1, 1);
            same("drops from event 1 on", x.supposedDrops() + " " + x.supposedFate(0, 1) + " " + x.supposedFate(1, 1), "32 1 3");
            x.arrive(0, 1, 2, 1, 0);
            same("later events happen, too", x.supposedDrops(), 33);
            x.leaveOut(0);
            same("the next one gets its place", x.supposedDrops() + " " + x.supposedFate(1, 1), "32 1");
        });
    }

    private static void suppose() {
        says("- `what`: 0 the capacity of port index, 1 the buffer, 2 the wait limit, 3 the age limit, 4 that rule index does not "
                + "hold", () -> {
            DropSwitch x = made("port a 9 0;port b 9 0;port c 9 0;age 5;wait 5;drop if to=9;drop if to=8;");
            x.arrive(0, 1, 2, 2, 0);
            x.arrive(0, 1, 8, 1, 0);
            ticks(x, 4);
            x.arrive(1, 2, 1, 1, 0);
            int[][] supposed = {{0, 1, 1}, {0, 0, 1}, {1, 0, 1}, {2, 0, 3}, {3, 0, 3}, {4, 1, 0}, {4, 0, 0}};
            String[] due = {"2 300", "1 100", "3 300", "3 300", "1 101", "0 110", "1 100"};
            for (int k = 0; k < supposed.length; k++) {
                x.suppose(supposed[k][0], supposed[k][1], supposed[k][2]);
                same("suppose(" + supposed[k][0] + ", " + supposed[k][1] + ", " + supposed[k][2] + ")",
                        x.supposedDrops() + " " + x.supposedFate(0, 1) + x.supposedFate(1, 1) + x.supposedFate(2, 2), due[k]);
                x.clearSuppositions();
            }
            DropSwitch four = made("port a 9 0;port b 9 0;port c 9 0;port d 9 0;" + "drop if to=63;".repeat(7) + "drop if to=62;");
            for (int port = 0; port < 4; port++) {
                four.arrive(port, port, 60, 2, 0);
            }
            four.arrive(0, 1, 62, 1, 0);
            for (int port = 0; port < 4; port++) {
                four.suppose(0, port, 3);
                same("the capacity of " + port, four.supposedDrops() + " " + four.supposedFate(0, port) + four.supposedFate(1, port)
                        + four.supposedFate(2, port) + four.supposedFate(3, port), "3 " + new String[] {"0133", "1033", "1303", "1330"}[port]);
                four.clearSuppositions();
            }
            four.suppose(4, 7, 0);
            same("the last rule", four.supposedDrops() + " " + four.supposedFate(4, 3), "0 1");
        });
        says("- `index`: the port or the rule; ignored for 1 to 3", () -> {
            DropSwitch x = made("port a 9 0;drop if any;");
            for (int what = 1; what <= 3; what++) {
                for (int index : new int[] {0, -1, 1, 64, MIN, MAX}) {
                    same("suppose(" + what + ", " + index + ", 9)", x.suppose(what, index, 9), what);
                }
            }
        });
        says("- `value`: the supposed value (in the range of the setting); ignored for 4", () -> {
            int[][] ranges = {{0, 1, 99}, {1, 1, 400}, {2, 1, 99}, {3, 0, 999}};
            DropSwitch x = made("port a 9 0;drop if any;");
            for (int[] range : ranges) {
                int what = range[0];
                same("the least of " + what, x.suppose(what, 0, range[1]), what + 1);
                same("the greatest of " + what, x.suppose(what, 0, range[2]), what + 1);
                for (int value : new int[] {range[1] - 1, range[2] + 1, MIN, MAX}) {
                    fails("suppose(" + what + ", 0, " + value + ")", ARGUMENT, () -> x.suppose(what, 0, value));
                }
            }
            for (int value : new int[] {0, 1, -1, 1000, MIN, MAX}) {
                same("suppose(4, 0, " + value + ")", x.suppose(4, 0, value), 5);
            }
        });
        says("Returns the number of suppositions on settings (several on the same setting count once).", () -> {
            DropSwitch x = made("port a 9 0;port b 9 0;port c 9 0;port d 9 0;" + "drop if any;".repeat(8));
            x.tick();
            x.leaveOut(0);
            for (int round = 0; round < 2; round++) {
                int made = round == 0 ? 0 : 15;
                for (int port = 0; port < 4; port++) {
                    same("port " + port, x.suppose(0, port, 5 + round), round == 0 ? ++made : made);
                }
                for (int what = 1; what < 4; what++) {
                    same("setting " + what, x.suppose(what, 0, 5 + round), round == 0 ? ++made : made);
                }
                for (int rule = 0; rule < 8; rule++) {
                    same("rule " + rule, x.suppose(4, rule, 5 + round), round == 0 ? ++made : made);
                }
            }
            same("all, and the event", x.clearSuppositions(), 16);
            same("the value that is set already counts, too", x.suppose(0, 0, 9), 1);
        });
        says("Throws `IndexOutOfBoundsException` if there is no such port or rule", () -> {
            DropSwitch x = made("port a 9 0;port b 9 0;drop if any;drop if any;drop if any;");
            same("the last port, the last rule", x.suppose(0, 1, 5) + " " + x.suppose(4, 2, 5), "1 2");
            for (int index : new int[] {-1, 2, 4, MIN, MAX}) {
                fails("suppose(0, " + index + ", 5)", BOUNDS, () -> x.suppose(0, index, 5));
            }
            for (int index : new int[] {-1, 3, 8, MIN, MAX}) {
                fails("suppose(4, " + index + ", 5)", BOUNDS, () -> x.suppose(4, index, 5));
            }
            same("nothing came of that", x.clearSuppositions(), 2);
            DropSwitch none = new DropSwitch();
            fails("no ports", BOUNDS, () -> none.suppose(0, 0, 5));
            fails("no rules", BOUNDS, () -> none.suppose(4, 0, 5));
        });
        says("Throws `IllegalArgumentException` if the value is out of range", () -> {
            DropSwitch x = made("port a 9 0;port b 9 0;");
            x.arrive(0, 1, 2, 9, 0);
            x.suppose(0, 1, 8);
            for (int value : new int[] {0, 100}) {
                fails("a capacity of " + value, ARGUMENT, () -> x.suppose(0, 1, value));
                fails("a wait limit of " + value, ARGUMENT, () -> x.suppose(2, 1, value));
            }
            fails("a buffer of 0", ARGUMENT, () -> x.suppose(1, 1, 0));
            fails("a buffer of 401", ARGUMENT, () -> x.suppose(1, 1, 401));
            fails("an age limit of -1", ARGUMENT, () -> x.suppose(3, 1, -1));
            fails("an age limit of 1000", ARGUMENT, () -> x.suppose(3, 1, 1000));
            same("the supposition before stays, no other one is made", x.supposedDrops() + " " + x.clearSuppositions(), "1 1");
        });
    }

    private static void leaveOut() {
        says("Supposes that an event is left out.", () -> {
            DropSwitch x = made("port a 9 0;port b 99 0;");
            packets(x, 120, 0, 1, 2, 1, 0);
            same("none", x.supposedDrops(), 21);
            x.leaveOut(0);
            same("the first", x.supposedDrops() + " " + x.supposedFate(0, 1) + x.supposedFate(99, 1), "20 01");
            x.leaveOut(119);
            same("the last", x.supposedDrops() + " " + x.supposedFate(118, 1) + x.supposedFate(119, 1), "19 30");
            x.leaveOut(119);
            same("the last again", x.supposedDrops(), 19);
            fails("one that is not there", BOUNDS, () -> x.leaveOut(120));
            same("nothing came of that", x.supposedDrops() + " " + x.count(4) + " " + x.clearSuppositions(), "19 21 2");
        });
        says("Returns the number of events that are left out.", () -> {
            DropSwitch x = new DropSwitch();
            ticks(x, 120);
            x.suppose(1, 0, 5);
            for (int event = 0; event < 120; event++) {
                same("event " + event, x.leaveOut(event), event + 1);
            }
            same("the first one again", x.leaveOut(0), 120);
            same("the last one again", x.leaveOut(119), 120);
            fails("event 120", BOUNDS, () -> x.leaveOut(120));
            x.rewind(1);
            x.tick();
            same("none after a rewind", x.leaveOut(1), 1);
        });
        says("Ends all suppositions. @return how many there were, events that are left out included", () -> {
            DropSwitch x = made("port a 9 0;port b 9 0;");
            same("none", x.clearSuppositions(), 0);
            x.arrive(0, 1, 2, 3, 0);
            x.arrive(0, 1, 2, 3, 0);
            x.suppose(0, 1, 3);
            same("one", x.clearSuppositions() + " " + x.supposedDrops(), "1 0");
            x.suppose(0, 1, 3);
            x.suppose(0, 1, 5);
            x.suppose(1, 1, 5);
            x.leaveOut(1);
            x.leaveOut(1);
            x.leaveOut(0);
            same("a run without events", x.supposedDrops() + " " + x.supposedFate(1, 1), "0 0");
            same("two settings, two events", x.clearSuppositions(), 4);
            same("none are left", x.clearSuppositions() + " " + x.supposedDrops() + " " + x.supposedFate(1, 1), "0 0 1");
        });
    }

    /** Rule 0 drops packet 0, and packet 3 pushes packet 2 out of the queue of b; packet 1 is delivered. */
    private static DropSwitch played() {
        DropSwitch x = made("port a 9 0;port b 4 1;port c 9 0;drop if to=50;");
        x.arrive(0, 1, 50, 2, 3);
        x.arrive(0, 1, 60, 2, 1);
        x.tick();
        x.arrive(0, 1, 60, 2, 0);
        x.arrive(0, 1, 60, 3, 2);
        return x;
    }

    private static void supposedRun() {
        says("Returns the number of drops of the supposed run.", () -> {
            same("no events", new DropSwitch().supposedDrops(), 0);
            DropSwitch x = played();
            same("nothing supposed", x.supposedDrops() + " " + x.count(4), "2 2");
            for (int event = 0; event < 5; event++) {
                x.leaveOut(event);
            }
            same("all events left out", x.supposedDrops(), 0);
            DropSwitch y = made("port a 9 0;port b 9 0;port c 9 0;port d 9 0;");
            packets(y, 120, 3, 1, 60, 2, 0);
            y.suppose(1, 0, 1);
            same("the most that can be", y.supposedDrops(), 360);
        });
        says("Returns the number of drops with this cause in the supposed run.", () -> {
            DropSwitch x = played();
            same("nothing supposed", x.supposedDropsBy(2) + " " + x.supposedDropsBy(8) + " " + x.supposedDropsBy(7), "1 1 0");
            x.suppose(0, 1, 1);
            same("a capacity of 1", x.supposedDropsBy(2) + " " + x.supposedDropsBy(8) + " " + x.supposedDropsBy(7), "1 0 3");
        });
        says("Returns what becomes of the copy of the packet for the port in the supposed run (as for fate).", () -> {
            DropSwitch x = played();
            same("nothing supposed", "" + x.supposedFate(0, 1) + x.supposedFate(1, 1) + x.supposedFate(2, 1) + x.supposedFate(3, 1), "0231");
            x.suppose(4, 0, 0);
            same("packet 0 gets through, packet 1 is in the queue when packet 3 arrives",
                    "" + x.supposedFate(0, 1) + x.supposedFate(1, 1) + x.supposedFate(2, 1) + x.supposedFate(3, 1), "2331");
            x.leaveOut(4);
            same("without packet 3", "" + x.supposedFate(0, 1) + x.supposedFate(1, 1) + x.supposedFate(2, 1) + x.supposedFate(3, 1), "2110");
        });
        says("Returns the number of copies that are delivered at the port in the supposed run.", () -> {
            DropSwitch x = played();
            same("nothing supposed", x.supposedDelivered(1) + " " + x.supposedDelivered(2), "1 0");
            x.leaveOut(2);
            same("no tick", x.supposedDelivered(1) + " " + x.delivered(1), "0 1");
        });
        says("Returns the number of present drops that are no drops (of the same packet with the same port) of the supposed run.", () -> {
            same("no events", new DropSwitch().saved(), 0);
            DropSwitch x = played();
            same("nothing supposed", x.saved(), 0);
            x.suppose(0, 1, 1);
            same("another cause for the same packet and port", x.saved(), 0);
            x.suppose(0, 1, 5);
            same("room for packet 2", x.saved(), 1);
            x.suppose(4, 0, 0);
            x.suppose(0, 1, 1);
            same("packet 0 is dropped at b in place of altogether", x.saved() + " " + x.supposedFate(0, 1), "1 3");
            x.leaveOut(0);
            x.leaveOut(3);
            same("both do not arrive", x.saved(), 2);
        });
        says("Returns the number of drops of the supposed run that are no present drops (of the same packet with the same port).", () -> {
            same("no events", new DropSwitch().newlyDropped(), 0);
            DropSwitch x = played();
            same("nothing supposed", x.newlyDropped(), 0);
            x.suppose(0, 1, 1);
            same("another cause for packet 2 at the same port, but also packets 1 and 3", x.newlyDropped() + " " + x.supposedDrops(), "2 4");
            x.suppose(0, 1, 2);
            same("packet 3 in place of packet 2", x.newlyDropped() + " " + x.supposedDrops(), "1 2");
            x.suppose(0, 2, 3);
            same("packet 2 at c, too: it was dropped at b alone", x.newlyDropped() + " " + x.supposedFate(2, 2) + x.fate(2, 2), "3 31");
            x.suppose(4, 0, 0);
            x.suppose(0, 1, 1);
            x.suppose(0, 2, 9);
            same("packet 0 at b, where it was dropped altogether", x.newlyDropped() + " " + x.supposedFate(0, 1), "3 3");
        });
    }

    // ---- explanations

    private static void evidence() {
        says("An event is evidence for a drop if, when this event alone is left out (without other suppositions), there is no "
                + "drop of the same packet with the same port (or NONE) in the run.", () -> {
            DropSwitch x = made("port a 9 0;port b 4 0;port c 2 0;wait 1;drop if to=9;");
            x.arrive(0, 1, 60, 2, 0);
            x.arrive(0, 1, 60, 2, 1);
            x.arrive(0, 1, 60, 2, 2);
            same("drops", drops(x, 0), "1 0 2 8 1; 2 0 1 8 2; 2 1 2 8 2");
            same("packet 0 at c: without event 1 it is pushed by event 2", evidence(x, 0), "0");
            same("packet 0 at b: the events 0, 1 and 2", evidence(x, 1), "0 1 2");
            same("packet 1 at c: without event 0 it is pushed all the same", evidence(x, 2), "1 2");
            x.arrive(0, 1, 9, 1, 0);
            ticks(x, 2);
            same("an altogether dropped one", drop(x, 3) + ": " + evidence(x, 3), "3 3 -1 2 0: 3");
            same("a stale one: both ticks", drop(x, 4) + ": " + evidence(x, 4), "5 1 1 9 -1: 1 4 5");
            same("packet 0 at b: now it would be stale without the events 1 and 2", evidence(x, 1), "0");
            x.rewind(4);
            same("without the ticks it would not be", evidence(x, 1), "0 1 2");
            x.tick();
            x.suppose(4, 0, 0);
            x.suppose(1, 0, 1);
            x.leaveOut(3);
            same("suppositions do not count", evidence(x, 3) + "; " + evidence(x, 1), "3; 0 1 2");
        });
        says("(The arrival of the packet itself is always evidence.)", () -> {
            DropSwitch x = made("port a 9 0;port b 4 0;port c 2 0;police a 1 9;wait 1;drop if to=9;");
            x.link(1, false);
            x.link(1, true);
            for (int k = 0; k < 20; k++) {
                x.arrive(k % 3, k % 4, 4 + k % 6, 1 + k % 3, k % 4);
                if (k % 5 == 4) {
                    x.tick();
                }
            }
            for (int drop = 0; drop < x.count(4); drop++) {
                int arrival = x.arrivalOf(x.dropField(drop, 1));
                same("event " + arrival + " for drop " + drop, (" " + evidence(x, drop) + " ").contains(" " + arrival + " "), true);
            }
        });
        says("Returns the number of events that are evidence for the drop.", () -> {
            DropSwitch x = made("port a 9 0;port b 9 0;");
            x.arrive(0, 1, 1, 1, 0);
            same("the arrival alone", x.evidenceCount(0), 1);
            DropSwitch y = made("port a 9 0;port b 99 0;");
            ticks(y, 20);
            packets(y, 100, 0, 1, 2, 1, 0);
            same("a hundred, up to the last event", y.evidenceCount(0), 100);
            y.rewind(119);
            y.arrive(0, 1, 1, 1, 0);
            same("another drop in its place", y.evidenceCount(0), 1);
            DropSwitch most = made("port a 9 1;port b 9 1;port c 9 1;port d 9 1;buffer 1;");
            packets(most, 120, 3, 1, 60, 2, 0);
            for (int drop : new int[] {0, 62, 63, 64, 65, 127, 128, 191, 192, 255, 256, 319, 320, 359}) {
                same("of so many drops the drop " + drop, most.evidenceCount(drop) + " " + most.evidence(drop, 0), "1 " + drop / 3);
            }
        });
        says("- `k`: from 0, in the order of the events", () -> {
            DropSwitch x = made("port a 9 0;port b 2 0;");
            x.tick();
            packets(x, 2, 0, 1, 2, 1, 0);
            x.tick();
            x.arrive(0, 1, 2, 1, 0);
            same("all of them", x.evidence(0, -1) + " " + x.evidence(0, 0) + " " + x.evidence(0, 1) + " " + x.evidence(0, 2) + " "
                    + x.evidence(0, 3), "-1 1 2 4 -1");
        });
        says("Returns the k-th event that is evidence for the drop; `NONE` if there is none.", () -> {
            DropSwitch y = made("port a 9 0;port b 99 0;");
            ticks(y, 20);
            packets(y, 100, 0, 1, 2, 1, 0);
            for (int k = 0; k < 100; k++) {
                same("the event " + k, y.evidence(0, k), 20 + k);
            }
            for (int k : new int[] {-1, 100, MIN, MAX}) {
                same("the event " + k, y.evidence(0, k), -1);
            }
        });
    }

    private static void savers() {
        says("Returns the least capacity (1 to 99) of the port of the drop with which, without other suppositions, there is no "
                + "drop of the same packet with the same port; `NONE` if there is none, or if the drop has no port.", () -> {
            DropSwitch most = made("port a 9 0;port b 9 0;");
            packets(most, 13, 0, 1, 2, 9, 0);
            same("9 for 18", drop(most, 0) + ": " + most.leastCapacity(0), "1 1 1 7 -1: 18");
            same("the greatest one", drop(most, 9) + ": " + most.leastCapacity(9), "10 10 1 7 -1: 99");
            same("none is great enough", drop(most, 10) + ": " + most.leastCapacity(10), "11 11 1 7 -1: -1");
            DropSwitch least = made("port a 9 0;port b 5 0;");
            least.arrive(0, 1, 2, 5, 0);
            least.arrive(0, 1, 2, 1, 0);
            same("the least one: a greater packet is kept out", drop(least, 0) + ": " + least.leastCapacity(0), "1 1 1 7 -1: 1");
            DropSwitch none = made("port a 9 0;port b 9 0;drop if to=9;");
            none.arrive(0, 1, 9, 1, 0);
            none.arrive(0, 1, 1, 1, 0);
            same("no port", none.leastCapacity(0) + " " + none.leastCapacity(1), "-1 -1");
            none.arrive(0, 1, 2, 5, 0);
            none.link(1, false);
            same("lost with any capacity", drop(none, 2) + ": " + none.leastCapacity(2), "3 2 1 10 -1: -1");
            DropSwitch buffer = made("port a 9 0;port b 9 0;port c 9 0;buffer 6;");
            buffer.arrive(0, 1, 60, 3, 0);
            buffer.arrive(0, 1, 60, 1, 0);
            same("of the other port alone", drops(buffer, 0) + ": " + buffer.leastCapacity(0), "1 1 1 6 -1; 1 1 2 6 -1: 1");
            DropSwitch pushed = made("port a 9 0;port b 1 0;");
            pushed.arrive(0, 1, 2, 1, 0);
            pushed.arrive(0, 1, 2, 1, 1);
            pushed.arrive(0, 1, 2, 9, 0);
            same("of a pushed one", drop(pushed, 0) + ": " + pushed.leastCapacity(0), "1 0 1 8 1: 2");
            same("of a great one, which is put behind both", drop(pushed, 1) + ": " + pushed.leastCapacity(1), "2 2 1 7 -1: 11");
            least.suppose(0, 1, 9);
            least.leaveOut(0);
            same("suppositions do not count", least.leastCapacity(0), 1);
        });
        says("Returns the rules, as a bit set (bit k stands for rule k), each of which saves the packet if it alone does not "
                + "hold: there is no drop of the same packet with the same port then.", () -> {
            StringBuilder text = new StringBuilder("port a 9 0;port b 9 0;");
            for (int rule = 0; rule < 8; rule++) {
                text.append("drop if to=").append(rule).append(";");
            }
            DropSwitch x = made(text.toString());
            for (int rule = 0; rule < 8; rule++) {
                x.arrive(0, 63, rule, 1, 0);
                same("rule " + rule, x.savingRules(rule), 1 << rule);
            }
            x.arrive(0, 63, 63, 1, 0);
            same("none", x.savingRules(8), 0);
            DropSwitch two = made("port a 9 0;port b 3 0;drop if size=9;pass if size=2;pass if size=1;drop if size<3;drop if size=9;");
            two.arrive(0, 1, 2, 2, 0);
            two.arrive(0, 1, 2, 1, 0);
            two.arrive(0, 1, 2, 3, 0);
            two.arrive(0, 1, 2, 9, 0);
            same("neither rule alone makes room enough", drop(two, 0) + ": " + two.savingRules(0), "2 2 1 7 -1: 0");
            same("two rules drop it", drop(two, 1) + ": " + two.savingRules(1), "3 3 -1 2 0: 0");
            DropSwitch both = made("port a 9 0;port b 3 0;pass if size=2;pass if size=1;drop if size<3;");
            both.arrive(0, 1, 2, 2, 0);
            both.arrive(0, 1, 2, 1, 0);
            both.arrive(0, 1, 2, 1, 0);
            same("each of two makes room, or drops it altogether", drop(both, 0) + ": " + both.savingRules(0), "2 2 1 7 -1: 3");
            both.suppose(4, 2, 0);
            same("suppositions do not count", both.savingRules(0), 3);
            DropSwitch none = made("port a 9 0;");
            none.arrive(0, 1, 2, 1, 0);
            same("no rules", none.savingRules(0), 0);
        });
    }

    // ---- formatted text

    private static String dropText(DropSwitch x, int drop) {
        int length = x.formatDrop(drop);
        return formatted(x) + " " + length;
    }

    private static void formats() {
        says("Formats a drop. The text is the packet; \"@\" and the event; a space and the cause in small letters; for a detail "
                + "\"=\" and the detail; for a port a space and its name. Numbers are decimal. The text replaces the previous "
                + "formatted text.", () -> {
            DropSwitch x = made("port a 9 0;port abcdef 9 0;wait 1;drop if to=50;");
            x.arrive(0, 1, 1, 1, 0);
            same("no detail, no port", dropText(x, 0), "0@0 back 8");
            x.arrive(0, 1, 50, 1, 0);
            same("a detail of 0, no port", dropText(x, 1), "1@1 rule=0 10");
            DropSwitch first = made("port q 1 0;port b 1 0;");
            first.arrive(1, 1, 2, 1, 0);
            first.arrive(1, 1, 2, 1, 1);
            same("the first port, and the first packet, in the second event", dropText(first, 0), "0@1 pushed=1 q 14");
            first.arrive(1, 1, 2, 1, 1);
            same("the first port, no detail", dropText(first, 1), "2@2 full q 10");
            packets(x, 7, 0, 1, 2, 1, 0);
            x.tick();
            x.arrive(0, 1, 2, 9, 1);
            same("one digit, and two of the event", dropText(x, 2), "8@10 pushed=9 abcdef 20");
            x.link(1, false);
            same("a port, no detail", dropText(x, 9), "9@11 lost abcdef 16");
            x.rewind(2);
            packets(x, 107, 0, 1, 2, 1, 3);
            x.link(1, false);
            x.link(1, true);
            x.arrive(0, 1, 2, 9, 2);
            packets(x, 7, 0, 1, 2, 9, 3);
            same("numbers of two digits", dropText(x, 2), "11@11 full abcdef 17");
            int pushed = x.count(4) - 7;
            same("numbers of three digits", dropText(x, pushed), "109@112 pushed=110 abcdef 25");
            x.arrive(0, 1, 50, 1, 0);
            same("the last event", dropText(x, x.count(4) - 1), "117@119 rule=0 14");
            same("a shorter text leaves nothing of a longer one", dropText(x, 0), "0@0 back 8");
            DropSwitch back = made("port a 9 0;");
            packets(back, 120, 0, 1, 1, 1, 0);
            for (int drop : new int[] {0, 1, 9, 10, 11, 19, 20, 90, 99, 100, 101, 109, 110, 119}) {
                String number = String.valueOf(drop);
                same("the number " + drop, dropText(back, drop), number + "@" + number + " back " + (6 + 2 * number.length()));
            }
        });
        says("Formats the queue of a port. The text is its name; then for each copy, from the beginning, a space, the packet, "
                + "\".\" and its class. The text replaces the previous formatted text.", () -> {
            DropSwitch x = made("port a 9 0;port abcdef 99 1;drop if to=50;");
            same("an empty queue", x.formatQueue(1) + formatted(x), "6abcdef");
            packets(x, 21, 0, 1, 50, 1, 0);
            packets(x, 99, 0, 1, 60, 1, 3);
            int length = x.formatQueue(1);
            StringBuilder most = new StringBuilder("abcdef");
            for (int packet = 21; packet < 120; packet++) {
                most.append(' ').append(packet).append(".3");
            }
            same("the longest text: its length", length, 6 + 79 * 5 + 20 * 6);
            same("a byte behind it", x.formattedByte(length), -1);
            for (int k = 0; k < 200; k++) {
                same("byte " + k, x.formattedByte(k), (int) most.charAt(k));
                if (k >= 130) {
                    int last = length - 1 - (k - 130);
                    same("byte " + last, x.formattedByte(last), (int) most.charAt(last));
                }
            }
            same("a shorter text leaves nothing of a longer one", x.formatQueue(0) + formatted(x), "1a");
            DropSwitch classes = made("port a 9 0;port b 9 0;");
            for (int rank = 0; rank < 4; rank++) {
                classes.arrive(0, 1, 2, 1, rank);
            }
            same("all classes", classes.formatQueue(1) + formatted(classes), "17b 0.0 1.1 2.2 3.3");
        });
        says("Returns the length of the text.", () -> {
            DropSwitch x = made("port a 9 0;port abcdef 9 0;drop if any;");
            x.arrive(0, 1, 2, 1, 0);
            same("of queues", x.formatQueue(0) + " " + x.formatQueue(1), "1 6");
            same("of a drop", x.formatDrop(0) + " " + formatted(x).length(), "10 10");
            fails("no such drop", BOUNDS, () -> x.formatDrop(1));
            fails("no such port", BOUNDS, () -> x.formatQueue(2));
            same("the text stays then", formatted(x), "0@0 rule=0");
        });
        says("- `index`: an offset in the formatted text", () -> {
            DropSwitch x = made("port a 9 0;port bc 9 0;");
            x.arrive(0, 1, 2, 1, 3);
            x.formatQueue(1);
            StringBuilder bytes = new StringBuilder();
            for (int k = -1; k < 8; k++) {
                bytes.append(x.formattedByte(k)).append(" ");
            }
            same("bytes", bytes.toString(), "-1 98 99 32 48 46 51 -1 -1 ");
        });
        says("Returns the byte at that offset; `NONE` if there is none.", () -> {
            DropSwitch x = made("port xyz 9 0;");
            same("no text", x.formattedByte(0) + " " + x.formattedByte(-1) + " " + x.formattedByte(MAX), "-1 -1 -1");
            x.formatQueue(0);
            same("the first, the last, and none behind it", x.formattedByte(0) + " " + x.formattedByte(2) + " " + x.formattedByte(3), "120 122 -1");
            same("out of range", x.formattedByte(-1) + " " + x.formattedByte(MIN) + " " + x.formattedByte(MAX), "-1 -1 -1");
        });
    }

    public static void main(String[] args) {
        manyCalls();
        states();
        replays();
        suppositions();
        suppose();
        leaveOut();
        supposedRun();
        evidence();
        savers();
        formats();
        end("ReplayBoundariesTest");
    }
}
