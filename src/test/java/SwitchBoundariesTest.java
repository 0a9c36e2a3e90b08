/** Settings, events, the state and drops: for each sentence that names a boundary case a test of its own. */
public final class SwitchBoundariesTest extends Due {
    // ---- settings

    private static void settings() {
        says("There are at most 4 ports, numbered from 0 in the order of the input text.", () -> {
            DropSwitch x = made("port d 9 1;port c 9 1;port b 9 1;port a 9 1;");
            StringBuilder names = new StringBuilder();
            for (int port = 0; port < 4; port++) {
                x.formatQueue(port);
                names.append(formatted(x));
            }
            same("the order", names.toString(), "dcba");
            fails("no port 4", BOUNDS, () -> x.formatQueue(4));
            same("no 5th port", error("port d 9 1;port c 9 1;port b 9 1;port a 9 1;port e 9 1;"), "44 4");
        });
        says("A port has a name, a capacity (1 to 99 units), a speed (0 to 9 packets in a tick), and a policer or none; "
                + "a policer has a rate and a burst (0 to 99 units each).", () -> {
            capacities();
            speeds();
            policers();
        });
        says("The switch has a buffer (1 to 400 units; 400 without such a line), an age limit (0 to 999 ticks; 100 without), "
                + "and a wait limit (1 to 99 ticks; 99 without).", () -> {
            buffers();
            ageLimits();
            waitLimits();
        });
        says("There are at most 8 rules, numbered from 0 in the order of the input text; a rule passes or drops, "
                + "and has a condition.", () -> {
            StringBuilder text = new StringBuilder("port a 9 1;port b 9 1;");
            for (int rule = 0; rule < 8; rule++) {
                text.append("drop if to=").append(rule).append(";");
            }
            DropSwitch x = made(text.toString());
            for (int rule = 7; rule >= 0; rule--) {
                x.arrive(0, 1, rule, 1, 0);
                same("rule " + rule, x.dropsByRule(rule) + " " + drop(x, 7 - rule), "1 " + (7 - rule) + " " + (7 - rule) + " -1 2 " + rule);
            }
            fails("no rule 8", BOUNDS, () -> x.dropsByRule(8));
            same("no 9th rule", error(text + "drop if to=8;"), "126 4");
        });
    }

    private static void capacities() {
        same("0 and 100", error("port a 0 1;") + ", " + error("port a 100 1;"), "7 2, 7 2");
        DropSwitch least = made("port a 9 0;port b 1 0;");
        same("two units for a capacity of 1", least.arrive(0, 1, 2, 2, 0), 0);
        same("one unit", least.arrive(0, 1, 2, 1, 0), 1);
        same("one unit more", least.arrive(0, 1, 2, 1, 0), 0);
        DropSwitch most = made("port a 9 0;port b 99 0;");
        packets(most, 11, 0, 1, 2, 9, 0);
        same("99 units for a capacity of 99", most.fill(1), 99);
        same("one unit more", most.arrive(0, 1, 2, 1, 0) + " " + drop(most, 0), "0 11 11 1 7 -1");
    }

    private static void speeds() {
        same("a speed of 10", error("port a 9 10;"), "9 2");
        DropSwitch x = made("port a 99 0;port b 99 9;");
        packets(x, 10, 0, 1, 60, 1, 0);
        packets(x, 1, 1, 2, 60, 1, 0);
        same("a speed of 9, ten copies", x.tick() + " " + x.queueLength(1), "9 1");
        same("a speed of 0", x.delivered(0) + " " + x.queueLength(0), "0 1");
        same("the last copy", x.tick() + " " + x.queueLength(1), "1 0");
    }

    private static void policers() {
        same("a rate of 100", error("port a 1 1;police a 100 99;"), "20 2");
        same("a burst of 100", error("port a 1 1;police a 99 100;"), "23 2");
        DropSwitch none = made("port a 9 0;port b 9 0;police a 99 0;");
        none.arrive(0, 1, 2, 1, 0);
        none.tick();
        none.arrive(0, 1, 2, 1, 0);
        same("a burst of 0", drops(none, 0) + "; " + none.tokens(0), "0 0 -1 3 -1; 2 1 -1 3 -1; 0");
        DropSwitch most = made("port a 9 0;port b 9 9;police a 99 99;police b 0 99;");
        packets(most, 11, 0, 1, 2, 9, 0);
        packets(most, 11, 1, 2, 1, 9, 0);
        same("a burst of 99 is enough for 99 units", most.dropsBy(DropSwitch.POLICED) + " " + most.tokens(0), "0 0");
        packets(most, 1, 0, 1, 2, 1, 0);
        same("but for no more", most.dropsBy(DropSwitch.POLICED), 1);
        most.tick();
        same("rates of 99 and 0", most.tokens(0) + " " + most.tokens(1), "99 0");
    }

    /** Fills four queues with 396 units, and tells the causes of the drops of 4 and of 5 units more. */
    private static String causesBehind396(String line) {
        DropSwitch x = made("port a 99 0;port b 99 0;port c 99 0;port d 99 0;" + line);
        packets(x, 11, 0, 1, 60, 9, 0);
        packets(x, 11, 1, 2, 60, 9, 0);
        same("units with " + line, x.fill(0) + x.fill(1) + x.fill(2) + x.fill(3), 396);
        int before = x.count(4);
        x.arrive(0, 1, 2, 4, 0);
        x.arrive(0, 1, 2, 5, 0);
        return x.dropField(before, 3) + " " + x.dropField(before + 1, 3);
    }

    private static void buffers() {
        same("0 and 401", error("buffer 0;") + ", " + error("buffer 401;"), "7 2, 7 2");
        DropSwitch least = made("port a 9 0;port b 9 0;buffer 1;");
        same("two units for a buffer of 1", least.arrive(0, 1, 2, 2, 0), 0);
        same("one unit", least.arrive(0, 1, 2, 1, 0), 1);
        same("one unit more", least.arrive(0, 1, 2, 1, 0) + " " + least.dropsBy(DropSwitch.BUFFER), "0 2");
        same("400 units, and 401", causesBehind396("buffer 400;"), "7 6");
        same("without such a line", causesBehind396(""), "7 6");
        same("a buffer of 399", causesBehind396("buffer 399;"), "6 6");
    }

    private static void ageLimits() {
        same("1000", error("age 1000;"), "4 2");
        DropSwitch none = made("port a 9 0;port b 9 0;age 0;");
        none.arrive(0, 1, 2, 1, 0);
        same("an age limit of 0", none.portOf(1), 0);
        none.tick();
        same("a tick later", none.portOf(1), -1);
        DropSwitch most = made("port a 9 0;port b 9 0;age 999;");
        most.arrive(0, 1, 2, 1, 0);
        ticks(most, 119);
        same("an age limit of 999", most.portOf(1), 0);
        for (String line : new String[] {"", "age 100;", "age 99;"}) {
            DropSwitch x = made("port a 9 0;port b 9 0;" + line);
            x.arrive(0, 1, 2, 1, 0);
            ticks(x, 100);
            same("after 100 ticks with " + line, x.portOf(1), line.equals("age 99;") ? -1 : 0);
            x.tick();
            same("after 101 ticks with " + line, x.portOf(1), -1);
        }
    }

    private static void waitLimits() {
        same("0 and 100", error("wait 0;") + ", " + error("wait 100;"), "5 2, 5 2");
        DropSwitch least = made("port a 9 0;port b 9 0;wait 1;");
        least.arrive(0, 1, 2, 1, 0);
        least.tick();
        same("a wait limit of 1", least.queueLength(1), 1);
        least.tick();
        same("a tick later", drops(least, 0), "2 0 1 9 -1");
        for (String line : new String[] {"", "wait 99;", "wait 98;"}) {
            DropSwitch x = made("port a 9 0;port b 9 0;" + line);
            x.arrive(0, 1, 2, 1, 0);
            ticks(x, 99);
            same("after 99 ticks with " + line, x.queueLength(1), line.equals("wait 98;") ? 0 : 1);
            x.tick();
            same("after 100 ticks with " + line, x.queueLength(1) + " " + x.dropsBy(DropSwitch.STALE), "0 1");
        }
    }

    // ---- events and the state

    private static void events() {
        says("There are at most 120 events, numbered from 0 in the order in which they happen: a packet arrives, "
                + "a tick passes, or a link changes.", () -> {
            DropSwitch x = made("port a 9 0;port b 9 0;");
            ticks(x, 117);
            x.link(1, true);
            x.link(1, false);
            x.arrive(0, 1, 2, 1, 0);
            same("their kinds", "" + x.eventKind(0) + x.eventKind(116) + x.eventKind(117) + x.eventKind(118) + x.eventKind(119), "11230");
            fails("no event 120", BOUNDS, () -> x.eventKind(120));
            fails("no packet more", STATE, () -> x.arrive(0, 1, 2, 1, 0));
            fails("no tick more", STATE, x::tick);
            fails("no link up more", STATE, () -> x.link(0, true));
            fails("no link down more", STATE, () -> x.link(0, false));
            same("120 events, the time, drops", x.count(2) + " " + x.count(5) + " " + drops(x, 0), "120 117 119 0 -1 5 -1");
            x.rewind(119);
            same("there is room for one again", x.tick() + " " + x.count(2), "0 120");
            fails("and no more", STATE, x::tick);
        });
        says("Packets are numbered from 0 in the order in which they arrive.", () -> {
            DropSwitch x = made("port a 9 0;port b 99 0;");
            x.tick();
            packets(x, 119, 0, 1, 2, 1, 0);
            same("the first", x.packetOf(1) + " " + x.arrivalOf(0), "0 1");
            same("the last", x.packetOf(119) + " " + x.arrivalOf(118) + " " + x.count(3), "118 119 119");
            fails("no packet 119", BOUNDS, () -> x.arrivalOf(119));
            x.rewind(2);
            x.arrive(0, 1, 2, 1, 0);
            same("after a rewind", x.packetOf(2) + " " + x.count(3), "1 2");
        });
        says("A packet has a port at which it arrives, a source and a target (addresses, 0 to 63), a size (1 to 9 units) "
                + "and a class (0 to 3, 3 being the most important one).", () -> {
            DropSwitch x = made("port a 9 0;port b 9 0;");
            x.arrive(0, 0, 63, 9, 0);
            same("pushed by class 1", x.arrive(0, 63, 0, 9, 1) + " " + drops(x, 0), "0 1 1 -1 4 -1");
            for (int rank = 1; rank < 4; rank++) {
                same("class " + rank + " pushes", x.arrive(0, 1, 2, 9, rank), 1);
                same("a lower class does not", x.arrive(0, 1, 2, 9, rank - 1), 0);
            }
            same("the least and the greatest address", x.portOf(0) + " " + x.portOf(63), "0 0");
            same("9 units", x.fill(1), 9);
            DropSwitch y = made("port a 9 0;port b 9 0;");
            y.arrive(0, 1, 2, 1, 0);
            same("1 unit", y.fill(1), 1);
        });
        says("The state consists of the time (0 at first), for each port whether its link is up (at first it is) and its "
                + "queue (empty at first), for each policer its tokens (the burst at first), and the table.", () -> {
            DropSwitch x = made("port a 9 0;port b 9 0;port c 9 0;port d 9 0;police a 1 0;police b 0 99;police d 3 3;");
            same("the time", x.count(5), 0);
            for (int port = 0; port < 4; port++) {
                same("the link and the queue of " + port, x.isUp(port) + " " + x.queueLength(port) + " " + x.fill(port), "true 0 0");
            }
            same("tokens", x.tokens(0) + " " + x.tokens(1) + " " + x.tokens(2) + " " + x.tokens(3), "0 99 -1 3");
            same("the table", x.tableSize(), 0);
            for (int address = 0; address < 64; address++) {
                same("the entry for " + address, x.portOf(address), -1);
            }
        });
        says("The fill of a queue is the sum of the sizes of its copies; the fill of the buffer is that of all queues.", () -> {
            DropSwitch x = made("port a 9 0;port b 9 0;port c 9 0;buffer 10;");
            same("empty", x.fill(0) + " " + x.fill(1) + " " + x.fill(2), "0 0 0");
            same("3 units twice", x.arrive(0, 1, 60, 3, 0), 2);
            same("2 units twice fill the buffer", x.arrive(1, 2, 60, 2, 0), 2);
            same("fills", x.fill(0) + " " + x.fill(1) + " " + x.fill(2), "2 3 5");
            same("nothing more", x.arrive(2, 3, 60, 1, 0) + " " + drops(x, 0), "0 2 2 0 6 -1; 2 2 1 6 -1");
        });
    }

    // ---- a packet arrives

    private static void firstSteps() {
        says("These steps are done in order; if the packet is dropped, the steps behind are not done.", () -> {
            DropSwitch x = made("port a 9 0;port b 9 0;port c 9 0;police a 0 5;drop if size=9;");
            x.link(0, false);
            x.arrive(0, 1, 1, 9, 0);
            same("DOWN ahead of all others", drop(x, 0) + " " + x.tokens(0) + " " + x.portOf(1), "1 0 -1 1 -1 5 -1");
            x.link(0, true);
            x.arrive(0, 1, 1, 9, 0);
            same("RULE ahead of POLICED", drop(x, 1) + " " + x.tokens(0) + " " + x.portOf(1), "3 1 -1 2 0 5 -1");
            x.arrive(0, 1, 1, 6, 0);
            same("POLICED ahead of the entry", drop(x, 2) + " " + x.tokens(0) + " " + x.portOf(1), "4 2 -1 3 -1 5 -1");
            x.arrive(0, 1, 1, 5, 0);
            same("the entry ahead of BACK", drop(x, 3) + " " + x.tokens(0) + " " + x.portOf(1), "5 3 -1 4 -1 0 0");
            same("no copies", x.fill(0) + x.fill(1) + x.fill(2), 0);
        });
        says("1. If the link of its port is down, it is dropped with the cause DOWN.", () -> {
            DropSwitch x = made("port a 9 0;port b 9 0;");
            same("up at first", x.arrive(0, 1, 2, 1, 0), 1);
            x.link(0, false);
            same("down", x.arrive(0, 1, 2, 1, 0) + " " + drops(x, 0), "0 2 1 -1 1 -1");
            same("the other one is not", x.arrive(1, 2, 60, 1, 0) + " " + drop(x, 1), "0 3 2 -1 5 -1");
            x.link(0, true);
            same("up again", x.arrive(0, 1, 60, 1, 0) + " " + x.count(4), "1 2");
        });
        says("2. The first rule whose condition holds for the packet decides; if it is a rule that drops, the packet is "
                + "dropped with the cause RULE and the number of the rule as the detail. If no rule holds, the packet passes.", () -> {
            DropSwitch x = made("port a 9 0;port b 9 0;pass if to=2;drop if to<4;pass if any and not to=5;drop if to<9;");
            same("the first rule passes", x.arrive(0, 1, 2, 1, 0), 1);
            same("the second one drops", x.arrive(0, 1, 3, 1, 0) + " " + drop(x, 0), "0 1 1 -1 2 1");
            same("the third one passes", x.arrive(0, 1, 4, 1, 0), 1);
            same("the last one drops", x.arrive(0, 1, 5, 1, 0) + " " + drop(x, 1), "0 3 3 -1 2 3");
            same("no rule", made("port a 9 0;port b 9 0;").arrive(0, 1, 2, 1, 0), 1);
            same("no rule that holds", made("port a 9 0;port b 9 0;drop if to=3;").arrive(0, 1, 2, 1, 0), 1);
        });
        says("3. If its port has a policer: if the tokens are fewer than its size, it is dropped with the cause POLICED; "
                + "otherwise the tokens decrease by its size.", () -> {
            DropSwitch x = made("port a 9 0;port b 9 0;police a 0 5;");
            x.arrive(0, 1, 2, 6, 0);
            same("fewer by one", drops(x, 0) + " " + x.tokens(0), "0 0 -1 3 -1 5");
            same("as many", x.arrive(0, 1, 2, 5, 0) + " " + x.tokens(0), "1 0");
            x.arrive(0, 1, 2, 1, 0);
            same("none", drops(x, 1) + " " + x.tokens(0), "2 2 -1 3 -1 0");
            same("no policer", x.arrive(1, 2, 1, 9, 0), 1);
        });
        says("4. The entry of the table for its source becomes its port with the present time (an entry that was there "
                + "before is replaced).", () -> {
            DropSwitch x = made("port a 9 0;port b 9 0;port c 9 0;age 1;");
            x.arrive(0, 1, 60, 1, 0);
            x.tick();
            x.arrive(1, 1, 60, 1, 0);
            same("the port", x.portOf(1) + " " + x.tableSize(), "1 1");
            x.tick();
            same("the time", x.portOf(1), 1);
            x.tick();
            same("too old", x.portOf(1), -1);
            x.arrive(2, 1, 60, 1, 0);
            same("replaced when too old", x.portOf(1), 2);
            x.tick();
            x.arrive(2, 1, 60, 1, 0);
            x.tick();
            same("the same port at a later time", x.portOf(1), 2);
        });
    }

    private static void ways() {
        says("5. The entry for its target is valid if there is one and the present time minus its time is at most the "
                + "age limit.", () -> {
            DropSwitch x = made("port a 99 0;port b 99 0;port c 99 0;age 2;");
            same("there is none: two ways", x.arrive(0, 5, 6, 1, 0), 2);
            same("it is new: one way", x.arrive(1, 6, 5, 1, 0), 1);
            ticks(x, 2);
            same("at the age limit", x.arrive(1, 6, 5, 1, 0), 1);
            x.tick();
            same("older by one", x.arrive(1, 6, 5, 1, 0), 2);
            DropSwitch y = made("port a 99 0;port b 99 0;port c 99 0;age 0;");
            y.arrive(0, 5, 6, 1, 0);
            same("an age limit of 0", y.arrive(1, 6, 5, 1, 0), 1);
            y.tick();
            same("a tick later", y.arrive(1, 6, 5, 1, 0), 2);
        });
        says("If it is valid, the only way out is its port: if this is the port at which the packet arrived, the packet is "
                + "dropped with the cause BACK.", () -> {
            DropSwitch x = made("port a 9 0;port b 1 0;port c 9 0;age 0;");
            x.arrive(0, 5, 5, 1, 0);
            same("to its own source", drop(x, 0), "0 0 -1 4 -1");
            x.arrive(0, 6, 5, 1, 0);
            same("to another one at its port", drop(x, 1), "1 1 -1 4 -1");
            x.arrive(1, 7, 60, 1, 0);
            same("the only way has no room", x.arrive(0, 6, 7, 2, 0) + " " + drop(x, 2), "0 3 3 1 7 -1");
            x.tick();
            same("an entry at its port that is too old", x.arrive(0, 6, 5, 1, 0), 2);
        });
        says("If it is not valid, the ways out are all other ports whose links are up; if there are none, the packet is "
                + "dropped with the cause NOWHERE.", () -> {
            DropSwitch alone = made("port a 9 0;");
            same("no other port", alone.arrive(0, 1, 2, 1, 0) + " " + drops(alone, 0), "0 0 0 -1 5 -1");
            same("learnt all the same", alone.portOf(1), 0);
            DropSwitch x = made("port a 9 0;port b 9 0;port c 9 0;port d 9 0;");
            same("three other ports", x.arrive(3, 1, 60, 1, 0) + " " + x.fill(0) + x.fill(1) + x.fill(2) + x.fill(3), "3 1110");
            x.link(0, false);
            x.link(3, false);
            same("one other port that is up", x.arrive(1, 1, 60, 1, 0) + " " + x.fill(2), "1 2");
            x.link(2, false);
            same("all others are down", x.arrive(1, 1, 60, 1, 0) + " " + drop(x, 3), "0 5 2 -1 5 -1");
            x.link(3, true);
            same("one is up again", x.arrive(1, 1, 60, 1, 0) + " " + x.fill(3), "1 1");
        });
    }

    private static void queuesThatAreFull() {
        says("if the fill of the buffer plus the size would be more than the buffer, the copy is dropped with the cause BUFFER", () -> {
            DropSwitch x = made("port a 9 0;port b 9 0;port c 9 0;buffer 6;");
            same("as much as the buffer", x.arrive(0, 1, 60, 3, 0), 2);
            same("more by one", x.arrive(0, 1, 60, 1, 3) + " " + drops(x, 0), "0 1 1 1 6 -1; 1 1 2 6 -1");
            DropSwitch y = made("port a 9 0;port b 3 0;port c 3 0;buffer 7;");
            y.arrive(0, 1, 60, 3, 0);
            same("room for one copy of two, though it pushes another one", y.arrive(0, 1, 60, 1, 1) + " " + drops(y, 0),
                    "2 1 0 1 8 1; 1 0 2 8 1");
            DropSwitch z = made("port a 9 0;port b 9 0;port c 9 0;buffer 7;");
            z.arrive(0, 1, 60, 3, 0);
            same("room for the first copy", z.arrive(0, 1, 60, 1, 0) + " " + drops(z, 0), "1 1 1 2 6 -1");
            DropSwitch full = made("port a 9 0;port b 3 0;buffer 3;");
            full.arrive(0, 1, 2, 3, 0);
            same("it does not push when the buffer is full", full.arrive(0, 1, 2, 1, 3) + " " + drops(full, 0), "0 1 1 1 6 -1");
            same("greater than the buffer, which is empty", made("port a 9 0;port b 9 0;buffer 3;").arrive(0, 1, 2, 4, 3), 0);
        });
        says("otherwise, if the fill of the queue plus the size is more than the capacity, copies of lower classes than that "
                + "of the packet are taken out of this queue, one after the other, the one of the lowest class first, of "
                + "several the one nearest to the end of the queue, until the copy fits", () -> {
            DropSwitch x = made("port a 9 0;port b 6 0;port c 99 0;");
            x.arrive(0, 1, 60, 2, 1);
            x.arrive(0, 1, 60, 2, 0);
            x.arrive(0, 1, 60, 2, 0);
            same("as much as the capacity", x.count(4) + " " + queue(x, 1), "0 0 1 2");
            x.arrive(0, 1, 60, 2, 1);
            same("of two the one nearest to the end", drops(x, 0) + ", left " + queue(x, 1), "3 2 1 8 3, left 0 1 3");
            x.arrive(0, 1, 60, 3, 2);
            same("the lowest class first, and no more than needed", drops(x, 1) + ", left " + queue(x, 1),
                    "4 1 1 8 4; 4 3 1 8 4, left 0 4");
            x.arrive(0, 1, 60, 1, 0);
            same("it fits again", x.count(4) + " " + queue(x, 1), "3 0 4 5");
            x.arrive(0, 1, 60, 1, 0);
            same("its own class is no lower one", drop(x, 3) + ", left " + queue(x, 1), "6 6 1 7 -1, left 0 4 5");
            same("the other queue has room for all", x.queueLength(2), 7);
        });
        says("each of them is dropped with the cause PUSHED and the number of the arriving packet as the detail", () -> {
            DropSwitch x = made("port a 99 0;port b 99 0;");
            packets(x, 99, 0, 1, 2, 1, 0);
            same("none while there is room", x.count(4), 0);
            packets(x, 11, 0, 1, 2, 9, 1);
            same("all 99", x.dropsBy(DropSwitch.PUSHED) + " " + x.count(4) + " " + x.fill(1), "99 99 99");
            same("nine by the first", drop(x, 0) + "; " + drop(x, 8) + "; " + x.pushedBy(99), "99 98 1 8 99; 99 90 1 8 99; 9");
            same("nine by the last", drop(x, 90) + "; " + drop(x, 98) + "; " + x.pushedBy(109), "109 8 1 8 109; 109 0 1 8 109; 9");
            x.rewind(0);
            packets(x, 11, 0, 1, 2, 9, 0);
            x.arrive(0, 1, 2, 1, 1);
            same("one that is greater than needed", drops(x, 0) + ", fill " + x.fill(1), "11 10 1 8 11, fill 91");
        });
        says("If the copy would not fit without all copies of lower classes, none is taken out, and the copy itself is "
                + "dropped with the cause FULL.", () -> {
            DropSwitch x = made("port a 9 0;port b 5 0;");
            x.arrive(0, 1, 2, 2, 1);
            x.arrive(0, 1, 2, 3, 0);
            same("one unit too few", x.arrive(0, 1, 2, 4, 1) + " " + drops(x, 0) + ", left " + queue(x, 1), "0 2 2 1 7 -1, left 0 1");
            same("just enough", x.arrive(0, 1, 2, 3, 1) + " " + drops(x, 1) + ", left " + queue(x, 1), "1 3 1 1 8 3, left 0 3");
            same("all of the queue", x.arrive(0, 1, 2, 5, 3) + " " + drops(x, 2) + ", left " + queue(x, 1),
                    "1 4 3 1 8 4; 4 0 1 8 4, left 4");
            same("greater than the capacity", x.arrive(0, 1, 2, 6, 3) + " " + drops(x, 4) + ", left " + queue(x, 1), "0 5 5 1 7 -1, left 4");
            same("none of a lower class", x.arrive(0, 1, 2, 1, 3) + " " + drops(x, 5), "0 6 6 1 7 -1");
            DropSwitch empty = made("port a 9 0;port b 5 0;");
            same("an empty queue", empty.arrive(0, 1, 2, 6, 3) + " " + drops(empty, 0), "0 0 0 1 7 -1");
            same("as great as the capacity", empty.arrive(0, 1, 2, 5, 0), 1);
        });
    }

    // ---- a tick passes, a link changes

    private static void ticksAndLinks() {
        says("For each port whose link is up, by number, as many copies as its speed tells (or all, if there are fewer) are "
                + "delivered: each time the copy of the highest class, of several the one nearest to the beginning of the "
                + "queue.", () -> {
            DropSwitch x = made("port a 9 1;port b 9 2;");
            same("an empty queue", x.tick(), 0);
            packets(x, 1, 0, 1, 2, 1, 0);
            same("fewer", x.tick() + " " + queue(x, 1), "1 ");
            packets(x, 2, 0, 1, 2, 1, 0);
            same("as many", x.tick() + " " + queue(x, 1), "2 ");
            packets(x, 3, 0, 1, 2, 1, 0);
            same("more", x.tick() + " " + queue(x, 1), "2 5");
            x.link(1, false);
            same("a link that is down", x.tick(), 0);
            x.link(1, true);
            x.arrive(0, 1, 2, 1, 0);
            x.arrive(0, 1, 2, 1, 2);
            x.arrive(0, 1, 2, 1, 3);
            x.arrive(0, 1, 2, 1, 2);
            x.arrive(0, 1, 2, 1, 2);
            same("class 3, then the first of class 2", x.tick() + " " + queue(x, 1), "2 6 9 10");
            same("then the others of class 2", x.tick() + " " + queue(x, 1), "2 6");
        });
        says("Then for each port, by number, the copies that have been in the queue for at least the wait limit (the present "
                + "time minus the time at which they were put into it) are dropped with the cause STALE, in the order of "
                + "the queue.", () -> {
            DropSwitch x = made("port a 9 0;port b 9 0;port c 9 0;wait 2;");
            x.arrive(1, 2, 60, 1, 0);
            x.arrive(0, 1, 60, 1, 3);
            x.tick();
            x.arrive(0, 1, 60, 1, 3);
            x.tick();
            same("a time less than the limit", x.count(4), 0);
            x.tick();
            same("just the limit, by ports and in the order of the queue", drops(x, 0), "5 0 0 9 -1; 5 1 1 9 -1; 5 0 2 9 -1; 5 1 2 9 -1");
            same("the newer one stays", queue(x, 1) + " " + queue(x, 2), "2 2");
            x.tick();
            same("until it is its time", drops(x, 4) + queue(x, 1), "6 2 1 9 -1; 6 2 2 9 -1");
            DropSwitch y = made("port a 9 0;port b 9 1;wait 1;");
            packets(y, 3, 0, 1, 2, 1, 0);
            ticks(y, 2);
            same("what is delivered is not stale", y.delivered(1) + " " + drops(y, 0), "2 4 2 1 9 -1");
        });
        says("Then the tokens of each policer increase by its rate, but not above its burst, and the time increases by 1.", () -> {
            DropSwitch x = made("port a 9 0;port b 9 0;port c 9 0;port d 9 0;police a 3 7;police b 3 6;police c 9 2;police d 0 5;");
            x.arrive(0, 1, 2, 7, 0);
            x.arrive(1, 2, 1, 6, 0);
            x.arrive(2, 3, 1, 1, 0);
            x.arrive(3, 4, 1, 1, 0);
            StringBuilder tokens = new StringBuilder();
            for (int k = 0; k < 5; k++) {
                tokens.append(x.count(5)).append(":");
                for (int port = 0; port < 4; port++) {
                    tokens.append(x.tokens(port)).append(port < 3 ? "," : " ");
                }
                x.tick();
            }
            same("tokens by the time", tokens.toString(), "0:0,0,1,4 1:3,3,2,4 2:6,6,2,4 3:7,6,2,4 4:7,6,2,4 ");
            ticks(x, 111);
            same("the latest time", x.count(5), 116);
        });
        says("It goes up or down (also if it is so already).", () -> {
            DropSwitch x = made("port a 9 0;port b 9 0;");
            x.arrive(0, 1, 2, 1, 0);
            same("up already", x.link(1, true) + " " + x.isUp(1) + " " + x.fill(1) + " " + x.eventKind(1), "0 true 1 2");
            same("down", x.link(1, false) + " " + x.isUp(1) + " " + x.fill(1), "1 false 0");
            same("down already", x.link(1, false) + " " + x.isUp(1) + " " + x.eventKind(3), "0 false 3");
            same("up again after one call", x.link(1, true) + " " + x.isUp(1), "0 true");
            same("each is an event", x.count(2), 5);
        });
        says("If it goes down, all copies in its queue are dropped with the cause LOST, in the order of the queue, and all "
                + "entries of the table for this port are removed.", () -> {
            DropSwitch x = made("port a 9 0;port b 9 0;port c 9 0;");
            x.arrive(0, 0, 60, 1, 3);
            x.arrive(0, 63, 60, 1, 0);
            x.arrive(2, 5, 60, 1, 2);
            x.arrive(1, 62, 60, 1, 0);
            same("three copies", x.link(1, false) + " " + drops(x, 0), "3 4 0 1 10 -1; 4 1 1 10 -1; 4 2 1 10 -1");
            same("the other queues stay", queue(x, 0) + "; " + queue(x, 2), "2 3; 0 1 3");
            same("its entry is gone, the others stay", x.portOf(0) + " " + x.portOf(5) + " " + x.portOf(62) + " " + x.portOf(63), "0 2 -1 0");
            same("an empty queue", x.link(1, false) + " " + x.count(4), "0 3");
            x.link(0, false);
            same("both entries of a", x.portOf(0) + " " + x.portOf(63) + " " + x.tableSize(), "-1 -1 1");
            x.link(0, true);
            same("they do not come back", x.tableSize() + " " + queue(x, 0), "1 ");
        });
    }

    private static void recordedDrops() {
        says("All drops are recorded in the order in which they happen, with the event, the packet, the port of the queue "
                + "(NONE for a packet that is dropped in the steps 1 to 5), the cause, and the detail (NONE if there is none).", () -> {
            DropSwitch x = made("port a 9 0;port b 3 0;port c 9 0;police a 0 20;buffer 12;wait 3;drop if size=9;");
            x.link(0, false);
            x.arrive(0, 1, 60, 1, 0);
            x.link(0, true);
            x.arrive(0, 1, 60, 9, 0);
            x.arrive(0, 1, 1, 1, 0);
            same("DOWN, RULE and BACK", drops(x, 0), "1 0 -1 1 -1; 3 1 -1 2 0; 4 2 -1 4 -1");
            x.arrive(0, 1, 60, 2, 0);
            x.arrive(0, 1, 60, 3, 0);
            x.arrive(0, 1, 60, 3, 1);
            same("FULL and PUSHED", drops(x, 3), "6 4 1 7 -1; 7 3 1 8 5");
            x.arrive(0, 1, 60, 2, 0);
            x.arrive(0, 1, 60, 8, 0);
            same("BUFFER", drops(x, 5), "8 6 1 6 -1; 8 6 2 6 -1; 9 7 1 6 -1; 9 7 2 6 -1");
            x.arrive(0, 1, 60, 2, 0);
            x.link(1, false);
            same("POLICED and LOST", drops(x, 9), "10 8 -1 3 -1; 11 5 1 10 -1");
            ticks(x, 4);
            same("STALE", drops(x, 11), "15 3 2 9 -1; 15 4 2 9 -1; 15 5 2 9 -1");
            x.link(2, false);
            x.arrive(0, 1, 60, 1, 0);
            same("NOWHERE", drops(x, 14), "17 9 -1 5 -1");
        });
        says("The present drops are those of all events.", () -> {
            same("no events", new DropSwitch().count(4), 0);
            DropSwitch x = made("port a 9 1;port b 9 1;port c 9 1;port d 9 1;buffer 1;");
            packets(x, 120, 3, 1, 60, 2, 0);
            same("the most that can be", x.count(4) + ": " + drop(x, 0) + ", " + drop(x, 359), "360: 0 0 0 6 -1, 119 119 2 6 -1");
            x.rewind(119);
            same("an event less", x.count(4), 357);
        });
    }

    // ---- the calls that make events

    private static void arrive() {
        says("- `source`: 0 to 63", () -> inRange(0, 63, v -> v.x.arrive(0, v.value, 60, 1, 0)));
        says("- `target`: 0 to 63", () -> inRange(0, 63, v -> v.x.arrive(0, 60, v.value, 1, 0)));
        says("- `size`: 1 to 9", () -> inRange(1, 9, v -> v.x.arrive(0, 60, 61, v.value, 0)));
        says("- `rank`: its class, 0 to 3", () -> inRange(0, 3, v -> v.x.arrive(0, 60, 61, 1, v.value)));
        says("Returns the number of its copies that were put into queues.", () -> {
            DropSwitch x = made("port a 9 0;port b 4 0;port c 2 0;port d 3 0;");
            same("dropped altogether", x.arrive(0, 1, 1, 1, 0), 0);
            same("three", x.arrive(0, 1, 60, 2, 0), 3);
            same("one", x.arrive(0, 1, 60, 2, 0), 1);
            same("none, but it is not dropped altogether", x.arrive(0, 1, 60, 2, 0) + " " + x.dropsBy(DropSwitch.FULL), "0 5");
            same("what it pushes does not count", x.arrive(0, 1, 60, 2, 1) + " " + x.dropsBy(DropSwitch.PUSHED), "3 3");
            same("one way alone", x.arrive(1, 2, 1, 1, 0), 1);
        });
        says("Throws `IllegalArgumentException` if source, target, size or rank is out of range", () -> {
            DropSwitch x = made("port a 9 0;port b 9 0;");
            fails("all of them", ARGUMENT, () -> x.arrive(0, -1, 64, 0, 4));
            fails("the extremes", ARGUMENT, () -> x.arrive(1, MIN, MAX, MIN, MAX));
            fails("the last one alone", ARGUMENT, () -> x.arrive(1, 63, 63, 9, -1));
            fails("the first one alone", ARGUMENT, () -> x.arrive(1, 64, 63, 9, 3));
            same("no event came of that", x.count(2) + " " + x.count(3) + " " + x.tableSize(), "0 0 0");
        });
        says("Throws `IllegalStateException` if there are 120 events", () -> {
            DropSwitch x = made("port a 9 0;port b 9 0;");
            ticks(x, 119);
            same("119 events", x.arrive(0, 1, 2, 1, 0), 1);
            fails("arrive", STATE, () -> x.arrive(0, 1, 2, 1, 0));
            fails("tick", STATE, x::tick);
            fails("link", STATE, () -> x.link(1, false));
            same("nothing came of that", x.count(2) + " " + x.count(3) + " " + x.count(5) + " " + queue(x, 1) + " " + x.isUp(1),
                    "120 1 119 0 true");
        });
    }

    /** A value for a parameter, and the switch that gets it. */
    private static final class Value {
        final DropSwitch x = made("port a 9 0;port b 9 0;");
        final int value;

        Value(int value) {
            this.value = value;
        }
    }

    private interface Use {
        void of(Value value);
    }

    /** The least and the greatest value are taken; what is beyond them is refused, and no event comes of it. */
    private static void inRange(int least, int most, Use use) {
        for (int value : new int[] {least, most}) {
            Value taken = new Value(value);
            use.of(taken);
            same("an event with " + value, taken.x.count(2), 1);
        }
        for (int value : new int[] {least - 1, most + 1, MIN, MAX}) {
            Value refused = new Value(value);
            fails("" + value, ARGUMENT, () -> use.of(refused));
            same("no event with " + value, refused.x.count(2), 0);
        }
    }

    private static void tickAndLink() {
        says("Returns the number of copies that were delivered.", () -> {
            same("no ports", new DropSwitch().tick(), 0);
            DropSwitch x = made("port a 9 9;port b 9 9;port c 9 9;port d 9 9;wait 1;");
            same("empty queues", x.tick(), 0);
            for (int port = 0; port < 4; port++) {
                packets(x, 3, port, port, 60, 1, 0);
            }
            same("nine at each of four ports", x.tick(), 36);
            same("none is left", x.tick(), 0);
            DropSwitch y = made("port a 9 0;port b 9 0;wait 1;");
            y.arrive(0, 1, 2, 1, 0);
            same("stale copies do not count", y.tick() + y.tick() + " " + y.count(4), "0 1");
        });
        says("Returns the number of copies that were dropped.", () -> {
            DropSwitch x = made("port a 9 0;port b 99 0;");
            same("an empty queue", x.link(1, false), 0);
            same("a link that goes up", x.link(1, true), 0);
            packets(x, 99, 0, 1, 60, 1, 0);
            same("a full queue goes up", x.link(1, true), 0);
            same("a full queue goes down", x.link(1, false) + " " + x.dropsBy(DropSwitch.LOST), "99 99");
            same("down already", x.link(1, false), 0);
        });
    }

    private static void rewind() {
        says("Removes the latest events. The suppositions end.", () -> {
            DropSwitch x = made("port a 9 1;port b 3 1;police a 1 9;");
            x.arrive(0, 1, 2, 2, 0);
            x.arrive(0, 5, 2, 2, 0);
            x.tick();
            x.link(1, false);
            x.suppose(1, 0, 1);
            x.leaveOut(1);
            x.rewind(4);
            same("none removed: the suppositions end all the same", x.clearSuppositions() + " " + x.count(2), "0 4");
            x.suppose(1, 0, 1);
            x.leaveOut(1);
            same("the supposed run before", x.supposedDrops() + " " + x.supposedFate(0, 1), "1 3");
            x.rewind(1);
            same("the supposed run", x.supposedDrops() + " " + x.supposedFate(0, 1), "0 1");
            same("the suppositions end", x.clearSuppositions() + " " + x.supposedDrops(), "0 0");
            same("events, packets, drops, the time", "" + x.count(2) + x.count(3) + x.count(4) + x.count(5), "1100");
            same("the queue, the link, the tokens", queue(x, 1) + " " + x.isUp(1) + " " + x.tokens(0), "0 true 7");
            same("deliveries, the table, the peak", x.delivered(1) + " " + x.portOf(1) + " " + x.portOf(5) + " " + x.peak(1), "0 0 -1 0");
            same("what became of packet 0", x.fate(0, 1), 1);
            x.rewind(0);
            same("no events", "" + x.count(2) + x.count(3) + x.count(4) + x.count(5) + x.tableSize() + x.fill(1) + x.tokens(0), "0000009");
        });
        says("- `events`: how many events stay, 0 to their number", () -> {
            same("0 of 0", new DropSwitch().rewind(0), 0);
            DropSwitch x = new DropSwitch();
            ticks(x, 120);
            x.rewind(120);
            same("120 of 120", x.count(2), 120);
            x.rewind(119);
            same("119 of 120", x.count(2), 119);
            x.rewind(0);
            same("0 of 119", x.count(2), 0);
        });
        says("Returns the number of drops that are left.", () -> {
            DropSwitch x = made("port a 9 0;port b 9 0;");
            x.tick();
            x.arrive(0, 1, 1, 1, 0);
            x.tick();
            x.arrive(0, 1, 1, 1, 0);
            same("all events", x.rewind(4), 2);
            same("up to the first drop", x.rewind(3) + " " + x.rewind(2), "1 1");
            same("ahead of it", x.rewind(1), 0);
            DropSwitch y = twoCauses();
            y.link(2, false);
            y.rewind(4);
            same("no drop is left of those removed", y.firstDrop(1) + " " + y.firstDrop(2) + " " + y.dropsBy(DropSwitch.PUSHED) + " "
                    + y.dropsBy(DropSwitch.LOST), "-1 -1 0 0");
            y.arrive(0, 1, 60, 1, 0);
            same("nor of what pushed them", y.pushedBy(3) + " " + y.fate(1, 1) + " " + drops(y, 0), "0 1 1 0 -1 2 1; 4 3 1 7 -1");
            y.rewind(1);
            y.arrive(0, 1, 60, 1, 0);
            same("nor of the rule", y.dropsByRule(1) + " " + y.firstDrop(0) + " " + y.count(4), "0 -1 0");
        });
        says("Throws `IllegalArgumentException` if events is out of range", () -> {
            DropSwitch x = made("port a 9 0;");
            fails("1 of 0", ARGUMENT, () -> x.rewind(1));
            ticks(x, 3);
            x.leaveOut(0);
            fails("4 of 3", ARGUMENT, () -> x.rewind(4));
            fails("-1", ARGUMENT, () -> x.rewind(-1));
            fails("the greatest int", ARGUMENT, () -> x.rewind(MAX));
            fails("the least int", ARGUMENT, () -> x.rewind(MIN));
            same("nothing came of that", x.count(2) + " " + x.clearSuppositions(), "3 1");
        });
    }

    // ---- the calls that tell of events, the state and drops

    private static void eventsTold() {
        says("Returns the kind of the event: 0 a packet arrives, 1 a tick passes, 2 a link goes up, 3 a link goes down.", () -> {
            DropSwitch x = made("port a 9 0;");
            x.arrive(0, 1, 2, 1, 0);
            x.tick();
            x.link(0, true);
            x.link(0, false);
            x.link(0, false);
            x.link(0, true);
            same("kinds", "" + x.eventKind(0) + x.eventKind(1) + x.eventKind(2) + x.eventKind(3) + x.eventKind(4) + x.eventKind(5), "012332");
        });
        says("Returns the packet that arrives in the event; `NONE` if it is another kind of event.", () -> {
            DropSwitch x = made("port a 9 0;");
            x.tick();
            x.link(0, false);
            x.link(0, true);
            x.arrive(0, 1, 2, 1, 0);
            x.tick();
            x.arrive(0, 1, 2, 1, 0);
            same("packets", x.packetOf(0) + " " + x.packetOf(1) + " " + x.packetOf(2) + " " + x.packetOf(3) + " " + x.packetOf(4)
                    + " " + x.packetOf(5), "-1 -1 -1 0 -1 1");
            x.rewind(3);
            x.tick();
            same("a tick in the place of a packet", x.packetOf(3), -1);
        });
    }

    private static void arrivalsTold() {
        says("Returns the event in which the packet arrives.", () -> {
            DropSwitch x = made("port a 9 0;");
            x.arrive(0, 1, 2, 1, 0);
            ticks(x, 118);
            x.arrive(0, 1, 2, 1, 0);
            same("the first and the last event", x.arrivalOf(0) + " " + x.arrivalOf(1), "0 119");
            fails("no packet 2", BOUNDS, () -> x.arrivalOf(2));
            x.rewind(119);
            fails("no packet 1 any more", BOUNDS, () -> x.arrivalOf(1));
            x.rewind(7);
            x.arrive(0, 1, 2, 1, 0);
            same("another packet of that number", x.arrivalOf(1), 7);
        });
    }

    private static void queuesTold() {
        says("- `k`: a position in the queue, from 0 at its beginning", () -> {
            DropSwitch x = made("port a 9 0;port b 3 1;");
            for (int rank = 0; rank < 3; rank++) {
                x.arrive(0, 1, 2, 1, rank);
            }
            same("all positions", x.queued(1, -1) + " " + x.queued(1, 0) + " " + x.queued(1, 1) + " " + x.queued(1, 2) + " "
                    + x.queued(1, 3), "-1 0 1 2 -1");
            x.tick();
            same("the last one is gone", x.queued(1, 0) + " " + x.queued(1, 1) + " " + x.queued(1, 2), "0 1 -1");
            x.arrive(0, 1, 2, 2, 3);
            same("the first one is gone", x.queued(1, 0) + " " + x.queued(1, 1) + " " + x.queued(1, 2), "1 3 -1");
        });
        says("Returns the fill of the queue of the port.", () -> {
            DropSwitch x = made("port a 9 0;port b 99 2;");
            same("empty", x.fill(0) + " " + x.fill(1), "0 0");
            packets(x, 11, 0, 1, 2, 9, 0);
            same("full", x.fill(0) + " " + x.fill(1), "0 99");
            x.tick();
            same("after deliveries", x.fill(1), 81);
            x.link(1, false);
            same("empty again", x.fill(1), 0);
        });
        says("Returns the number of copies in the queue of the port.", () -> {
            DropSwitch x = made("port a 9 0;port b 99 9;");
            same("empty", x.queueLength(0) + " " + x.queueLength(1), "0 0");
            packets(x, 100, 0, 1, 2, 1, 0);
            same("full", x.queueLength(0) + " " + x.queueLength(1), "0 99");
            ticks(x, 10);
            same("less", x.queueLength(1), 9);
            x.tick();
            same("empty again", x.queueLength(1), 0);
        });
        says("Returns the packet of the copy; `NONE` if there is none.", () -> {
            DropSwitch x = made("port a 9 0;port b 99 1;");
            same("an empty queue", x.queued(1, 0), -1);
            packets(x, 99, 0, 1, 2, 1, 0);
            same("the first, the last, and none behind it", x.queued(1, 0) + " " + x.queued(1, 98) + " " + x.queued(1, 99), "0 98 -1");
            same("none ahead of the first", x.queued(1, -1), -1);
            same("the extremes", x.queued(1, MIN) + " " + x.queued(1, MAX), "-1 -1");
            x.tick();
            same("one delivered", x.queued(1, 0) + " " + x.queued(1, 97) + " " + x.queued(1, 98), "1 98 -1");
            same("the queue beside it", x.queued(0, 0), -1);
        });
        says("Returns true if the link of the port is up.", () -> {
            DropSwitch x = made("port a 9 0;port b 9 0;port c 9 0;port d 9 0;");
            x.link(3, false);
            same("the last one down", x.isUp(0) + " " + x.isUp(2) + " " + x.isUp(3), "true true false");
            x.link(0, false);
            x.link(3, true);
            same("the first one down", x.isUp(0) + " " + x.isUp(1) + " " + x.isUp(3), "false true true");
        });
        says("Returns the tokens of the policer of the port; `NONE` if it has none.", () -> {
            DropSwitch x = made("port a 9 0;port b 9 0;port c 9 0;police a 0 0;police b 99 99;");
            same("none are not NONE", x.tokens(0), 0);
            same("the most", x.tokens(1), 99);
            same("no policer", x.tokens(2), -1);
        });
    }

    private static void tableTold() {
        says("- `address`: 0 to 63", () -> {
            DropSwitch x = made("port a 9 0;port b 9 0;");
            for (int address = 0; address < 64; address++) {
                x.arrive(address % 2, address, 60, 9, 0);
            }
            for (int address = 0; address < 64; address++) {
                same("portOf(" + address + ")", x.portOf(address), address % 2);
                same("portAt(64, " + address + ")", x.portAt(64, address), address % 2);
                same("portAt(.., " + address + ")", x.portAt(address, address), -1);
            }
            fails("portOf(-1)", ARGUMENT, () -> x.portOf(-1));
            fails("portOf(64)", ARGUMENT, () -> x.portOf(64));
            fails("portAt(64, -1)", ARGUMENT, () -> x.portAt(64, -1));
            fails("portAt(64, 64)", ARGUMENT, () -> x.portAt(64, 64));
        });
        says("Returns the port of the valid entry of the table for the address; `NONE` if there is none.", () -> {
            DropSwitch x = made("port a 9 0;port b 9 0;age 3;");
            x.arrive(0, 0, 60, 1, 0);
            x.arrive(1, 63, 60, 1, 0);
            same("the first and the last address", x.portOf(0) + " " + x.portOf(63), "0 1");
            same("beside them", x.portOf(1) + " " + x.portOf(62), "-1 -1");
            same("the target is not learnt", x.portOf(60), -1);
            ticks(x, 3);
            same("at the age limit", x.portOf(0), 0);
            x.tick();
            same("older", x.portOf(0), -1);
        });
        says("Throws `IllegalArgumentException` if the address is out of range", () -> {
            DropSwitch x = made("port a 9 0;");
            same("0 and 63", x.portOf(0) + " " + x.portOf(63), "-1 -1");
            for (int address : new int[] {-1, 64, MIN, MAX}) {
                fails("portOf(" + address + ")", ARGUMENT, () -> x.portOf(address));
                fails("portAt(0, " + address + ")", ARGUMENT, () -> x.portAt(0, address));
            }
        });
        says("Returns the number of valid entries of the table.", () -> {
            DropSwitch x = made("port a 9 0;port b 9 0;age 1;");
            same("none", x.tableSize(), 0);
            for (int address = 0; address < 64; address++) {
                x.arrive(address % 2, address, 60, 9, 0);
            }
            same("all", x.tableSize(), 64);
            x.tick();
            same("at the age limit", x.tableSize(), 64);
            x.arrive(0, 5, 60, 9, 0);
            x.tick();
            same("one is new", x.tableSize(), 1);
            x.tick();
            same("none is new", x.tableSize(), 0);
        });
    }

    private static void fatesTold() {
        says("Returns the number of copies that were delivered at the port.", () -> {
            DropSwitch x = made("port a 9 0;port b 99 9;");
            same("none", x.delivered(1), 0);
            packets(x, 99, 0, 1, 2, 1, 0);
            ticks(x, 11);
            same("99", x.delivered(0) + " " + x.delivered(1), "0 99");
            x.rewind(99);
            same("none again", x.delivered(1), 0);
        });
        says("Returns what became of the copy of the packet for the port: 0 there was none, 1 it is in the queue, 2 it was "
                + "delivered, 3 it was dropped.", () -> {
            DropSwitch x = made("port a 9 0;port b 3 1;port c 4 0;port d 1 0;drop if size=9;");
            x.arrive(0, 1, 60, 2, 0);
            same("in queues, and dropped at the full one", "" + x.fate(0, 0) + x.fate(0, 1) + x.fate(0, 2) + x.fate(0, 3), "0113");
            x.arrive(0, 1, 60, 9, 0);
            same("dropped altogether: there were no copies", "" + x.fate(1, 0) + x.fate(1, 1) + x.fate(1, 2) + x.fate(1, 3), "0000");
            x.arrive(0, 1, 60, 2, 1);
            same("the first one is pushed", "" + x.fate(0, 1) + x.fate(0, 2) + x.fate(2, 1) + x.fate(2, 2), "3111");
            x.tick();
            x.link(2, false);
            same("delivered and lost", "" + x.fate(2, 1) + x.fate(2, 2) + x.fate(0, 2), "233");
            x.arrive(1, 5, 1, 1, 0);
            same("one copy alone", "" + x.fate(3, 0) + x.fate(3, 1) + x.fate(3, 2) + x.fate(3, 3), "1000");
            DropSwitch most = made("port a 9 0;port b 9 0;port c 9 0;port d 99 0;drop if size=2;");
            for (int k = 0; k < 120; k++) {
                most.arrive(0, 1, 60, 1 + k % 2, 0);
            }
            for (int k = 0; k < 120; k++) {
                same("the last port, packet " + k, most.fate(k, 3), 1 - k % 2);
                same("the first port, packet " + k, most.fate(k, 0), 0);
            }
            same("the last packet of an odd number", most.fate(119, 3) + " " + most.firstDrop(119), "0 " + (most.count(4) - 1));
        });
    }

    /** Event 1 drops packet 0 by rule 1; event 3 pushes packets 1 and 2 out of the queue of b. */
    private static DropSwitch twoCauses() {
        DropSwitch x = made("port a 9 0;port b 4 0;port c 9 0;drop if size=8;drop if size=9;");
        x.tick();
        x.arrive(0, 1, 60, 9, 0);
        x.arrive(0, 1, 60, 2, 0);
        x.arrive(0, 1, 60, 2, 1);
        x.arrive(0, 1, 60, 4, 2);
        return x;
    }

    private static void dropsTold() {
        says("- `what`: 0 the event, 1 the packet, 2 the port, 3 the cause, 4 the detail", () -> {
            DropSwitch x = twoCauses();
            same("RULE", x.dropField(0, 0) + " " + x.dropField(0, 1) + " " + x.dropField(0, 2) + " " + x.dropField(0, 3) + " "
                    + x.dropField(0, 4), "1 0 -1 2 1");
            same("PUSHED", x.dropField(2, 0) + " " + x.dropField(2, 1) + " " + x.dropField(2, 2) + " " + x.dropField(2, 3) + " "
                    + x.dropField(2, 4), "4 2 1 8 3");
        });
        says("Throws `NoSuchElementException` if what is not 0 to 4", () -> {
            DropSwitch x = twoCauses();
            for (int what : new int[] {-1, 5, MIN, MAX}) {
                fails("dropField(0, " + what + ")", ELEMENT, () -> x.dropField(0, what));
                fails("suppose(" + what + ", 0, 1)", ELEMENT, () -> x.suppose(what, 0, 1));
            }
            same("0 and 4", x.dropField(0, 0) + " " + x.dropField(0, 4), "1 1");
            same("0 and 4 of suppose", x.suppose(0, 0, 1) + " " + x.suppose(4, 0, 1), "1 2");
        });
        says("Returns that part of the drop.", () -> {
            DropSwitch x = twoCauses();
            same("the first and the last drop", drop(x, 0) + "; " + drop(x, 2) + " of " + x.count(4), "1 0 -1 2 1; 4 2 1 8 3 of 3");
            x.link(2, false);
            same("without a detail", drop(x, 5), "5 3 2 10 -1");
            x.rewind(2);
            fails("a drop that is gone", BOUNDS, () -> x.dropField(1, 0));
            fails("no drops", BOUNDS, () -> new DropSwitch().dropField(0, 0));
        });
        says("Returns the first drop of the packet (by its copies or altogether); `NONE` if it was not dropped.", () -> {
            DropSwitch x = twoCauses();
            same("altogether, and it is drop 0", x.firstDrop(0), 0);
            same("its copies", x.firstDrop(1) + " " + x.firstDrop(2), "1 2");
            same("not dropped", x.firstDrop(3), -1);
            x.link(2, false);
            same("the first one of two", x.firstDrop(1) + " " + x.firstDrop(3) + " " + x.count(4), "1 5 6");
        });
        says("- `cause`: DOWN to LOST", () -> {
            DropSwitch x = made("port a 9 0;port b 9 0;");
            x.arrive(0, 1, 2, 1, 0);
            x.link(1, false);
            x.arrive(1, 1, 2, 1, 0);
            x.arrive(1, 1, 2, 1, 0);
            same("the first and the last cause", x.dropsBy(DropSwitch.DOWN) + " " + x.dropsBy(DropSwitch.LOST), "2 1");
            same("of the supposed run", x.supposedDropsBy(DropSwitch.DOWN) + " " + x.supposedDropsBy(DropSwitch.LOST), "2 1");
            fails("ahead of the first", ARGUMENT, () -> x.dropsBy(DropSwitch.DOWN - 1));
            fails("behind the last", ARGUMENT, () -> x.dropsBy(DropSwitch.LOST + 1));
            fails("ahead of the first, of the supposed run", ARGUMENT, () -> x.supposedDropsBy(DropSwitch.DOWN - 1));
            fails("behind the last, of the supposed run", ARGUMENT, () -> x.supposedDropsBy(DropSwitch.LOST + 1));
        });
        says("Returns the number of drops with this cause.", () -> {
            DropSwitch x = twoCauses();
            StringBuilder numbers = new StringBuilder();
            for (int cause = DropSwitch.DOWN; cause <= DropSwitch.LOST; cause++) {
                numbers.append(x.dropsBy(cause));
            }
            same("all causes", numbers.toString(), "0100000200");
        });
        says("Throws `IllegalArgumentException` if there is no such cause", () -> {
            DropSwitch x = twoCauses();
            same("DOWN and LOST", x.dropsBy(1) + " " + x.dropsBy(10) + " " + x.supposedDropsBy(1) + " " + x.supposedDropsBy(10), "0 0 0 0");
            for (int cause : new int[] {-1, 0, 11, MIN, MAX}) {
                fails("dropsBy(" + cause + ")", ARGUMENT, () -> x.dropsBy(cause));
                fails("supposedDropsBy(" + cause + ")", ARGUMENT, () -> x.supposedDropsBy(cause));
            }
        });
        says("Returns the number of drops for which the rule is the detail.", () -> {
            DropSwitch x = twoCauses();
            same("none, one", x.dropsByRule(0) + " " + x.dropsByRule(1), "0 1");
            x.arrive(1, 1, 60, 9, 0);
            same("two", x.dropsByRule(1), 2);
            DropSwitch y = made("port a 9 0;port b 1 0;drop if size=9;pass if any;");
            y.arrive(0, 1, 60, 1, 0);
            y.arrive(0, 1, 60, 1, 1);
            same("a packet that pushes is no rule", drop(y, 0) + ", " + y.dropsByRule(1), "1 0 1 8 1, 0");
        });
        says("Returns the number of copies that the packet pushed out of queues.", () -> {
            DropSwitch x = twoCauses();
            same("none, two", x.pushedBy(0) + " " + x.pushedBy(1) + " " + x.pushedBy(2) + " " + x.pushedBy(3), "0 0 0 2");
            DropSwitch y = made("port a 9 0;port b 2 0;port c 3 0;drop if size=8;");
            packets(y, 3, 0, 1, 60, 1, 0);
            y.arrive(0, 1, 60, 2, 3);
            same("out of two queues", y.pushedBy(3) + " " + y.dropsBy(DropSwitch.PUSHED), "4 4");
            y.arrive(0, 1, 60, 8, 3);
            same("a rule is no packet that pushes", y.pushedBy(0), 0);
        });
    }

    public static void main(String[] args) {
        settings();
        events();
        firstSteps();
        ways();
        queuesThatAreFull();
        ticksAndLinks();
        recordedDrops();
        arrive();
        tickAndLink();
        rewind();
        eventsTold();
        arrivalsTold();
        queuesTold();
        tableTold();
        fatesTold();
        dropsTold();
        end("SwitchBoundariesTest");
    }
}
