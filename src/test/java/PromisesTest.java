import java.util.regex.Matcher;
import java.util.regex.Pattern;

/** At least one test for each promise of the document, in its order, with answers worked out by hand. */
public final class PromisesTest extends Due {
    // ---- the promises

    private static void newObject() {
        DropSwitch fresh = new DropSwitch();
        same("its table", fresh.tableSize() + " " + fresh.portOf(0) + " " + fresh.portOf(63), "0 -1 -1");
        same("its past", fresh.portAt(0, 0) + " " + fresh.repeats(0) + " " + fresh.checkpoints(), "-1 0 0");
        same("its supposed run", fresh.supposedDrops() + " " + fresh.saved() + " " + fresh.newlyDropped(), "0 0 0");
        same("a tick without ports", fresh.tick() + " " + fresh.portAt(1, 0) + " " + fresh.tableSize(), "0 -1 0");
        DropSwitch x = new DropSwitch();
        for (int what = 0; what < 6; what++) {
            same("count(" + what + ")", x.count(what), 0);
        }
        same("truncate(1)", x.truncate(1), false);
        same("load()", x.load(), 0);
        same("formattedByte(0)", x.formattedByte(0), -1);
        same("clearSuppositions()", x.clearSuppositions(), 0);
        same("tableSize()", x.tableSize(), 0);
        fails("fill(0)", BOUNDS, () -> x.fill(0));
        fails("arrive", BOUNDS, () -> x.arrive(0, 1, 2, 1, 1));
    }

    private static void append() {
        DropSwitch x = new DropSwitch();
        same("append", x.append(0x706f7274, 0x20612035, 0x20323b20, 0x20202020, 0x20202020), 20);
        same("load()", x.load(), 1);
        for (int k = 1; k <= 30; k++) {
            same("append " + k, x.append(-1, 0, 1, 2, 3), 20 * k);
        }
        same("append 31", x.append(0, 0, 0, 0, 0), -1);
        same("the length stays", x.truncate(600), true);
        x.truncate(581);
        same("append at 581", x.append(0, 0, 0, 0, 0), -1);
        same("truncate(582)", x.truncate(582), false);
        x.truncate(580);
        same("append at 580", x.append(0, 0, 0, 0, 0), 600);
        same("high bytes", error("\u00f0"), "0 1");
        same("a byte like ; but for its sign", error("age 1\u00bb"), "5 1");
    }

    private static void truncate() {
        DropSwitch x = new DropSwitch();
        same("truncate(0)", x.truncate(0), true);
        feed(x, "age 1;age 2;age 3;");
        same("truncate(-1)", x.truncate(-1), false);
        same("truncate(min)", x.truncate(Integer.MIN_VALUE), false);
        same("truncate(19)", x.truncate(19), false);
        same("truncate(18)", x.truncate(18), true);
        same("truncate(6)", x.truncate(6), true);
        same("truncate(7)", x.truncate(7), false);
        same("append", x.append(0, 0, 0, 0, 0), 26);
        same("truncate(5)", x.truncate(5), true);
        fails("load()", ARGUMENT, x::load);
        same("errorOffset()", x.errorOffset(), 5);
    }

    private static void load() {
        DropSwitch x = made(" port a 5 2 ;\n\tport b 6 0;police a 1 2;pass if any ; drop if at a; ");
        same("ports", x.count(0), 2);
        same("rules", x.count(1), 2);
        x.arrive(0, 1, 2, 1, 1);
        x.tick();
        x.leaveOut(0);
        x.suppose(1, 0, 9);
        x.formatQueue(1);
        feed(x, "port a 5 2; port a 6 1;");
        fails("load of a bad text", ARGUMENT, x::load);
        same("the buffer is empty", x.truncate(1), false);
        same("the ports stay", x.count(0), 2);
        same("the events stay", x.count(2), 2);
        same("the suppositions stay", x.clearSuppositions(), 2);
        x.leaveOut(0);
        feed(x, "port longer 9 9;");
        same("load()", x.load(), 1);
        same("the buffer is empty then, too", x.truncate(1), false);
        same("no rules", x.count(1), 0);
        same("no events", x.count(2), 0);
        same("no packets", x.count(3), 0);
        same("no time", x.count(5), 0);
        same("no suppositions", x.clearSuppositions(), 0);
        same("the policer is gone", x.tokens(0), -1);
        same("the formatted text stays", formatted(x), "b 0.1");
        same("empty text", made("").count(0), 0);
        same("blanks alone", made(" \n\t").count(0), 0);
        same("words and numbers may touch", made("port a5 2;buffer7;age0;wait9;pass if from<3or to=4;").count(1), 1);
        same("keywords as names", made("port port 1 0;port at 1 0;drop if at at;police port 0 0;").tokens(0), 0);
        same("leading zeros", made("buffer 007;").count(0), 0);
        DropSwitch last = made("port a 9 0;port b 9 0;buffer 9;buffer 2;police a 1 1;police a 2 3;");
        same("the later policer", last.tokens(0), 3);
        last.arrive(0, 1, 2, 3, 0);
        same("the later buffer", last.dropsBy(DropSwitch.BUFFER), 1);
        conditions();
        manyLoads();
    }

    /** A switch that is loaded again and again keeps nothing of the texts before. */
    private static void manyLoads() {
        String rules = "drop if (to=1 or to=2) and not from>1;pass if any and any and any;".repeat(4);
        DropSwitch x = new DropSwitch();
        for (int k = 0; k < 24; k++) {
            feed(x, "port a 9 1;port b 9 1;" + rules);
            x.load();
        }
        same("eight rules", x.count(1), 8);
        x.arrive(0, 1, 2, 3, 1);
        x.arrive(0, 2, 2, 3, 1);
        same("the first rule of the latest text", x.dropsByRule(0), 1);
        feed(x, "port a 9 1;port b 9 1;pass if at a;drop if any;");
        x.load();
        x.arrive(0, 1, 2, 3, 1);
        same("a rule that passes where one dropped", x.dropsBy(DropSwitch.RULE), 0);
        feed(x, "port a 9 1;port b 9 1;drop if at b;");
        x.load();
        x.arrive(0, 1, 2, 3, 1);
        same("a rule that does not hold where one did", x.dropsBy(DropSwitch.RULE), 0);
    }

    private static void conditions() {
        same("any", drops("any"), true);
        same("at a", drops("at a"), true);
        same("at b", drops("at b"), false);
        same("from=1", drops("from=1"), true);
        same("from<1", drops("from<1"), false);
        same("from>1", drops("from>1"), false);
        same("to<3", drops("to<3"), true);
        same("to=3", drops("to=3"), false);
        same("size>2", drops("size>2"), true);
        same("size=999", drops("size=999"), false);
        same("class=1", drops("class=1"), true);
        same("class>0", drops("class > 0"), true);
        same("not any", drops("not any"), false);
        same("not binds first", drops("not at a or any"), true);
        same("and before or", drops("any or any and at b"), true);
        same("or behind and", drops("at b and any or any"), true);
        same("brackets", drops("(any or any) and at b"), false);
        same("not of brackets", drops("not(at b or not not any)"), false);
        same("three ands", drops("any and any and at b"), false);
        same("three ors", drops("at b or at b or any"), true);
        same("five nots", drops("not not not not not at b"), true);
        same("five brackets", drops("(((((at a)))))"), true);
        same("five again and again", drops("(not(not(at a))) and (((((any)))))"), true);
    }

    private static void errorOffset() {
        DropSwitch x = new DropSwitch();
        same("errorOffset() at first", x.errorOffset(), -1);
        feed(x, "age 1;x");
        fails("load()", ARGUMENT, x::load);
        same("errorOffset()", x.errorOffset(), 6);
        same("it stays", x.errorOffset(), 6);
        x.load();
        same("errorOffset() after a right text", x.errorOffset(), -1);
        same("early end", error("wait"), "4 1");
        same("early end behind blanks", error("wait  \n"), "7 1");
        same("early end of a line", error("age 12"), "6 1");
        same("a part of a word", error("age 1; wai"), "7 1");
        same("a longer word", error("ages 1;"), "0 1");
        same("a word with another first letter", error("xort a 1 1;"), "0 1");
        same("a sign", error("age 1; ;"), "7 1");
        String most = "age 1;".repeat(99);
        same("599 bytes", error(most + "age 1"), "599 1");
        same("600 bytes", error(most + "age 1;"), "no error");
        same("600 bytes, the last one a digit", error(most + "age 11"), "600 1");
        same("600 bytes, the last one a letter", error(most + "  wait"), "600 1");
        same("600 bytes, the last one a blank", error(most + "wait  "), "600 1");
        same("600 bytes, the last one a sign", error(most + "wait ="), "599 1");
    }

    private static void errorKind() {
        DropSwitch x = new DropSwitch();
        same("errorKind() at first", x.errorKind(), 0);
        feed(x, "age 1000;");
        fails("load()", ARGUMENT, x::load);
        same("errorKind()", x.errorKind(), DropSwitch.BAD_NUMBER);
        x.load();
        same("errorKind() after a right text", x.errorKind(), 0);
        same("capacity 0", error("port a 0 1;"), "7 2");
        same("capacity 100", error("port a 100 1;"), "7 2");
        same("capacity 99", error("port a 99 9;"), "no error");
        same("speed 10", error("port a 1 10;"), "9 2");
        same("rate 100", error("port a 1 1;police a 100 1;"), "20 2");
        same("burst 100", error("port a 1 1;police a 99 100;"), "23 2");
        same("buffer 0", error("buffer 0;"), "7 2");
        same("buffer 400", error("buffer 400;"), "no error");
        same("buffer 401", error("buffer 401;"), "7 2");
        same("age 999", error("age 999;"), "no error");
        same("wait 0", error("wait 0;"), "5 2");
        same("wait 99", error("wait 99;"), "no error");
        same("wait 100", error("wait 100;"), "5 2");
        same("four digits", error("drop if to<0001;"), "11 2");
        same("a number in place of a name", error("port 1234 1 1;"), "5 1");
        same("a name in place of a number", error("port a b 1;"), "7 1");
        same("a name of 7 letters", error("port abcdefg 1 1;"), "5 1");
        same("a name twice", error("port ab 1 1;port ab 1 1;"), "17 3");
        same("a policer for no port", error("port a 1 1;police b 1 1;"), "18 3");
        same("a port told later", error("drop if at a;port a 1 1;"), "11 3");
        String four = "port a 1 1;port b 1 1;port c 1 1;port d 1 1;";
        same("four ports", error(four), "no error");
        same("a fifth port", error(four + " port a 1 1;"), "45 4");
        same("a fifth port, cut off", error(four + "port"), "44 4");
        String eight = "pass if any;drop if any;".repeat(4);
        same("eight rules", error(eight), "no error");
        same("a ninth rule", error(eight + "drop if 1;"), "96 4");
        same("a sixth not", error("drop if not not not not not not any;"), "28 4");
        same("not and brackets together", error("drop if not(not(not(any;"), "19 4");
        same("a sixth not behind brackets", error("drop if not(not(not not any;"), "20 4");
        same("five are open only", error("drop if (not(not any)) and not(not(any;"), "38 1");
        same("six brackets", error("drop if ((((((any))))));"), "13 4");
        same("a bracket that stays open", error("drop if (any;"), "12 1");
        same("a bracket too many", error("drop if any);"), "11 1");
        same("no if", error("drop any;"), "5 1");
        same("no condition", error("drop if ;"), "8 1");
        same("no sign", error("drop if from 3;"), "13 1");
        same("no number", error("drop if from<;"), "13 1");
        same("no atom behind and", error("drop if any and or any;"), "16 1");
        same("a wrong word behind an atom", error("drop if any andy any;"), "12 1");
        same("capital letters", error("Age 1;"), "0 1");
        same("another blank", error("age\r1;"), "3 1");
    }

    private static void count() {
        DropSwitch x = made("port a 9 1;port b 9 1;port c 9 1;drop if size=9;pass if any;");
        x.arrive(0, 1, 2, 9, 0);
        x.arrive(0, 1, 2, 1, 0);
        x.link(2, false);
        x.tick();
        x.tick();
        same("ports", x.count(0), 3);
        same("rules", x.count(1), 2);
        same("events", x.count(2), 5);
        same("packets", x.count(3), 2);
        same("drops", x.count(4), 2);
        same("time", x.count(5), 2);
        fails("count(-1)", ELEMENT, () -> x.count(-1));
        fails("count(6)", ELEMENT, () -> x.count(6));
    }

    private static void arrive() {
        DropSwitch x = made("port a 5 1;port b 5 1;port c 5 1;");
        same("to both", x.arrive(0, 1, 2, 3, 1), 2);
        same("to the known one", x.arrive(1, 2, 1, 5, 0), 1);
        same("to none", x.arrive(2, 3, 3, 1, 0), 0);
        same("one full", x.arrive(1, 4, 9, 2, 0), 1);
        fails("port -1", BOUNDS, () -> x.arrive(-1, 99, 2, 1, 1));
        fails("port 3", BOUNDS, () -> x.arrive(3, 1, 2, 1, 1));
        fails("source -1", ARGUMENT, () -> x.arrive(0, -1, 2, 1, 1));
        fails("source 64", ARGUMENT, () -> x.arrive(0, 64, 2, 1, 1));
        fails("target -1", ARGUMENT, () -> x.arrive(0, 1, -1, 1, 1));
        fails("target 64", ARGUMENT, () -> x.arrive(0, 1, 64, 1, 1));
        fails("size 0", ARGUMENT, () -> x.arrive(0, 1, 2, 0, 1));
        fails("size 10", ARGUMENT, () -> x.arrive(0, 1, 2, 10, 1));
        fails("class -1", ARGUMENT, () -> x.arrive(0, 1, 2, 1, -1));
        fails("class 4", ARGUMENT, () -> x.arrive(0, 1, 2, 1, 4));
        same("no event came of that", x.count(2), 4);
        same("the greatest addresses", x.arrive(0, 63, 0, 1, 3), 2);
        ticks(x, 115);
        same("120 events", x.count(2), 120);
        fails("the 121st", STATE, () -> x.arrive(0, 1, 2, 1, 1));
        fails("the port goes first", BOUNDS, () -> x.arrive(3, 1, 2, 0, 1));
        fails("then the arguments", ARGUMENT, () -> x.arrive(0, 1, 2, 0, 1));
        stepsOfArrival();
        fullQueues();
    }

    private static void stepsOfArrival() {
        DropSwitch x = made("port a 9 0;port b 9 0;port c 9 0;police a 1 4;age 1;pass if from=9;drop if to>50;drop if any and size=8;");
        x.link(2, false);
        x.arrive(2, 1, 60, 1, 0);
        same("DOWN comes first", drop(x, 0), "1 0 -1 1 -1");
        same("nothing learnt from it", x.portOf(1), -1);
        x.arrive(0, 1, 60, 9, 0);
        same("then RULE", drop(x, 1), "2 1 -1 2 1");
        x.arrive(0, 1, 5, 8, 0);
        same("the next rule", drop(x, 2), "3 2 -1 2 2");
        same("the first rule decides", x.arrive(1, 9, 60, 8, 0), 1);
        same("the tokens are left", x.tokens(0), 4);
        x.arrive(0, 1, 5, 5, 0);
        same("then POLICED", drop(x, 3), "5 4 -1 3 -1");
        same("still nothing learnt", x.portOf(1), -1);
        x.arrive(0, 1, 1, 4, 0);
        same("all tokens, then BACK", drop(x, 4), "6 5 -1 4 -1");
        same("learnt", x.portOf(1), 0);
        same("spent", x.tokens(0), 0);
        x.link(1, false);
        x.arrive(0, 1, 5, 1, 0);
        same("no tokens", drop(x, x.count(4) - 1), "8 6 -1 3 -1");
        x.tick();
        x.arrive(0, 1, 5, 1, 0);
        same("NOWHERE", drop(x, x.count(4) - 1), "10 7 -1 5 -1");
        DropSwitch y = made("port a 9 0;port b 9 0;port c 9 0;age 1;");
        y.arrive(0, 1, 2, 1, 0);
        ticks(y, 1);
        same("an entry at the age limit", y.arrive(1, 2, 1, 1, 0), 1);
        ticks(y, 1);
        same("an older one", y.arrive(1, 2, 1, 1, 0), 2);
        y.arrive(2, 1, 3, 1, 0);
        same("replaced", y.portOf(1), 2);
        DropSwitch alone = made("port a 9 0;");
        alone.arrive(0, 1, 2, 1, 0);
        same("one port alone", drop(alone, 0), "0 0 -1 5 -1");
    }

    private static void fullQueues() {
        DropSwitch x = made("port a 9 0;port b 6 0;");
        x.arrive(0, 1, 2, 2, 1);
        x.arrive(0, 1, 2, 1, 0);
        x.arrive(0, 1, 2, 1, 0);
        x.arrive(0, 1, 2, 2, 1);
        same("the same class pushes nothing", x.arrive(0, 1, 2, 3, 1), 0);
        same("FULL", drop(x, 0), "4 4 1 7 -1");
        same("none taken out", queue(x, 1), "0 1 2 3");
        same("pushes", x.arrive(0, 1, 2, 1, 1), 1);
        same("the later one of class 0", drop(x, 1), "5 2 1 8 5");
        same("it is put at the end", queue(x, 1), "0 1 3 5");
        same("pushes three", x.arrive(0, 1, 2, 4, 2), 1);
        same("class 0 first", drop(x, 2), "6 1 1 8 6");
        same("then class 1 from the end", drop(x, 3), "6 5 1 8 6");
        same("then the next", drop(x, 4), "6 3 1 8 6");
        same("not more than needed", queue(x, 1), "0 6");
        same("greater than the queue", x.arrive(0, 1, 2, 7, 3), 0);
        same("FULL then, too", drop(x, 5), "7 7 1 7 -1");
        DropSwitch y = made("port a 9 0;port b 4 0;port c 9 0;buffer 5;");
        y.arrive(0, 1, 2, 2, 0);
        y.arrive(0, 1, 2, 1, 3);
        same("one copy left out", y.count(4), 1);
        same("BUFFER", drop(y, 0), "1 1 2 6 -1");
        y.arrive(0, 1, 2, 2, 3);
        same("BUFFER before FULL, nothing pushed", drop(y, 1), "2 2 1 6 -1");
        same("and for the other port", drop(y, 2), "2 2 2 6 -1");
    }

    private static void tick() {
        DropSwitch x = made("port a 30 0;port b 30 2;port c 30 9;wait 2;police a 3 9;police b 0 5;");
        x.arrive(0, 1, 2, 1, 0);
        x.arrive(0, 1, 2, 1, 2);
        x.arrive(0, 1, 2, 1, 1);
        x.arrive(0, 1, 2, 1, 2);
        x.arrive(0, 1, 2, 1, 0);
        same("tick()", x.tick(), 7);
        same("the highest class first", queue(x, 1), "0 2 4");
        same("tokens", x.tokens(0), 7);
        same("time", x.count(5), 1);
        x.link(1, false);
        same("what was lost", x.dropsBy(DropSwitch.LOST), 3);
        x.link(1, true);
        x.arrive(2, 3, 1, 1, 0);
        x.tick();
        same("tokens up to the burst", x.tokens(0), 9);
        same("a rate of 0", x.tokens(1), 5);
        x.tick();
        same("not stale yet", x.dropsBy(DropSwitch.STALE), 0);
        x.arrive(2, 3, 1, 1, 0);
        same("nothing at speed 0", x.tick(), 0);
        same("stale", drop(x, 3), "12 5 0 9 -1");
        same("the newer one stays", queue(x, 0), "6");
        DropSwitch y = made("port a 9 0;port b 9 1;wait 1;");
        y.arrive(0, 1, 2, 1, 0);
        y.arrive(0, 1, 2, 1, 0);
        y.arrive(0, 1, 2, 1, 0);
        same("deliveries before stale ones", y.tick(), 1);
        same("one more", y.tick(), 1);
        same("then stale", drop(y, 0), "4 2 1 9 -1");
        ticks(y, 115);
        fails("the 121st event", STATE, y::tick);
        same("no ports", new DropSwitch().tick(), 0);
    }

    private static void link() {
        DropSwitch x = made("port a 9 1;port b 9 1;port c 9 1;");
        x.arrive(0, 1, 9, 1, 0);
        x.arrive(1, 2, 9, 1, 0);
        x.arrive(0, 3, 9, 1, 3);
        same("up already", x.link(2, true), 0);
        same("goes down", x.link(2, false), 3);
        same("in the order of the queue", drop(x, 0) + "; " + drop(x, 1) + "; " + drop(x, 2),
                "4 0 2 10 -1; 4 1 2 10 -1; 4 2 2 10 -1");
        same("down already", x.link(2, false), 0);
        same("a copy less", x.arrive(1, 2, 9, 1, 0), 1);
        same("entries stay", x.portOf(1), 0);
        x.link(0, false);
        same("entries for the port are gone", x.portOf(1) + " " + x.portOf(3) + " " + x.portOf(2), "-1 -1 1");
        same("goes up", x.link(0, true), 0);
        same("they do not come back", x.portOf(1), -1);
        fails("link(-1)", BOUNDS, () -> x.link(-1, true));
        fails("link(3)", BOUNDS, () -> x.link(3, true));
        ticks(x, 120 - x.count(2));
        fails("the 121st event", STATE, () -> x.link(0, true));
        fails("the port goes first", BOUNDS, () -> x.link(3, true));
    }

    private static void rewind() {
        DropSwitch x = made("port a 9 1;port b 3 1;police a 1 9;");
        x.arrive(0, 1, 2, 2, 0);
        x.arrive(0, 1, 2, 2, 0);
        x.tick();
        x.arrive(0, 1, 2, 2, 1);
        x.link(1, false);
        same("drops", x.count(4), 2);
        x.leaveOut(0);
        x.suppose(1, 0, 1);
        fails("rewind(-1)", ARGUMENT, () -> x.rewind(-1));
        fails("rewind(6)", ARGUMENT, () -> x.rewind(6));
        same("all events stay", x.rewind(5), 2);
        same("the suppositions end", x.clearSuppositions(), 0);
        same("rewind(4)", x.rewind(4), 1);
        same("the link is up again", x.isUp(1), true);
        same("in the queue again", x.fate(2, 1), 1);
        same("rewind(2)", x.rewind(2), 1);
        same("packets", x.count(3), 2);
        same("time", x.count(5), 0);
        same("not delivered any more", x.fate(0, 1) + " " + x.delivered(1), "1 0");
        same("tokens", x.tokens(0), 5);
        same("rewind(0)", x.rewind(0), 0);
        same("no events", x.count(2), 0);
        same("nothing learnt", x.tableSize(), 0);
        same("no peak", x.peak(1), -1);
        same("another past", x.arrive(1, 7, 1, 1, 0), 1);
        same("its number", x.arrivalOf(0), 0);
    }

    private static void eventKind() {
        DropSwitch x = made("port a 9 1;port b 3 1;");
        x.tick();
        x.arrive(0, 1, 2, 1, 0);
        x.link(1, false);
        x.link(1, true);
        same("kinds", "" + x.eventKind(0) + x.eventKind(1) + x.eventKind(2) + x.eventKind(3), "1032");
        fails("eventKind(-1)", BOUNDS, () -> x.eventKind(-1));
        fails("eventKind(4)", BOUNDS, () -> x.eventKind(4));
        about("13 packetOf");
        x.arrive(0, 1, 2, 1, 0);
        same("packets", x.packetOf(0) + " " + x.packetOf(1) + " " + x.packetOf(3) + " " + x.packetOf(4), "-1 0 -1 1");
        fails("packetOf(-1)", BOUNDS, () -> x.packetOf(-1));
        fails("packetOf(5)", BOUNDS, () -> x.packetOf(5));
        about("14 arrivalOf");
        same("arrivals", x.arrivalOf(0) + " " + x.arrivalOf(1), "1 4");
        fails("arrivalOf(-1)", BOUNDS, () -> x.arrivalOf(-1));
        fails("arrivalOf(2)", BOUNDS, () -> x.arrivalOf(2));
    }

    private static void queues() {
        DropSwitch x = made("port a 9 1;port b 9 1;port c 9 0;");
        same("an empty queue", x.fill(1) + " " + x.queueLength(1) + " " + x.queued(1, 0), "0 0 -1");
        x.arrive(0, 1, 2, 3, 0);
        x.arrive(0, 1, 2, 4, 1);
        about("15 fill");
        same("fills", x.fill(0) + " " + x.fill(1) + " " + x.fill(2), "0 7 7");
        fails("fill(-1)", BOUNDS, () -> x.fill(-1));
        fails("fill(3)", BOUNDS, () -> x.fill(3));
        about("16 queueLength");
        same("lengths", x.queueLength(0) + " " + x.queueLength(1), "0 2");
        fails("queueLength(-1)", BOUNDS, () -> x.queueLength(-1));
        fails("queueLength(3)", BOUNDS, () -> x.queueLength(3));
        about("17 queued");
        same("copies", x.queued(1, 0) + " " + x.queued(1, 1) + " " + x.queued(1, 2), "0 1 -1");
        same("out of range", x.queued(1, -1) + x.queued(1, Integer.MAX_VALUE) + x.queued(1, Integer.MIN_VALUE), -3);
        fails("queued(3, 0)", BOUNDS, () -> x.queued(3, 0));
        x.tick();
        same("after a tick", queue(x, 1) + "; " + queue(x, 2), "0; 0 1");
        same("fill after a tick", x.fill(1), 3);
        about("18 isUp");
        same("at first", x.isUp(2), true);
        x.link(2, false);
        same("down", x.isUp(2), false);
        same("the other one", x.isUp(1), true);
        x.link(2, true);
        same("up", x.isUp(2), true);
        fails("isUp(3)", BOUNDS, () -> x.isUp(3));
        fails("isUp(-1)", BOUNDS, () -> x.isUp(-1));
    }

    private static void tokens() {
        DropSwitch x = made("port a 9 1;port b 9 1;police b 2 7;");
        same("no policer", x.tokens(0), -1);
        same("the burst", x.tokens(1), 7);
        x.arrive(1, 1, 2, 7, 0);
        same("spent", x.tokens(1), 0);
        x.tick();
        same("the rate", x.tokens(1), 2);
        same("a burst of 0", made("port a 9 1;police a 9 0;").tokens(0), 0);
        fails("tokens(2)", BOUNDS, () -> x.tokens(2));
        fails("tokens(-1)", BOUNDS, () -> x.tokens(-1));
    }

    private static void table() {
        DropSwitch x = made("port a 9 9;port b 9 9;port c 9 9;age 2;");
        same("empty", x.portOf(5) + " " + x.tableSize(), "-1 0");
        x.arrive(1, 5, 63, 1, 0);
        x.tick();
        x.arrive(2, 63, 5, 1, 0);
        same("entries", x.portOf(5) + " " + x.portOf(63) + " " + x.portOf(0), "1 2 -1");
        same("tableSize()", x.tableSize(), 2);
        x.tick();
        same("at the age limit", x.portOf(5), 1);
        x.tick();
        same("older", x.portOf(5) + " " + x.portOf(63), "-1 2");
        same("tableSize() then", x.tableSize(), 1);
        fails("portOf(-1)", ARGUMENT, () -> x.portOf(-1));
        fails("portOf(64)", ARGUMENT, () -> x.portOf(64));
        DropSwitch y = made("port a 9 9;port b 9 9;age 0;");
        y.arrive(0, 1, 2, 1, 0);
        same("an age limit of 0", y.portOf(1) + " " + y.tableSize(), "0 1");
        y.tick();
        same("a tick later", y.portOf(1) + " " + y.tableSize(), "-1 0");
        DropSwitch z = made("port a 9 9;port b 9 9;");
        z.arrive(0, 1, 2, 1, 0);
        ticks(z, 100);
        same("100 without such a line", z.portOf(1), 0);
        z.tick();
        same("101", z.portOf(1), -1);
    }

    private static void tableSize() {
        DropSwitch x = made("port a 9 9;port b 9 9;port c 9 9;age 1;");
        same("at first", x.tableSize(), 0);
        x.arrive(0, 0, 63, 1, 0);
        x.arrive(1, 63, 0, 1, 0);
        same("the first address and the last", x.tableSize(), 2);
        x.arrive(2, 0, 63, 1, 0);
        same("an entry that is replaced", x.tableSize(), 2);
        x.tick();
        x.arrive(0, 7, 8, 1, 0);
        same("at the age limit", x.tableSize(), 3);
        x.tick();
        same("older", x.tableSize(), 1);
        x.link(1, false);
        same("another link goes down", x.tableSize(), 1);
        x.link(0, false);
        same("its link goes down", x.tableSize(), 0);
        x.arrive(0, 9, 8, 1, 0);
        same("a packet that is dropped before it is learned", x.tableSize(), 0);
        x.rewind(5);
        same("back at the entry of address 7", x.tableSize(), 3);
        x.suppose(3, 0, 0);
        same("a supposed age limit", x.tableSize(), 3);
    }

    private static void delivered() {
        DropSwitch x = made("port a 9 1;port b 9 2;port c 9 0;");
        x.arrive(0, 1, 2, 1, 0);
        x.arrive(0, 1, 2, 1, 0);
        x.arrive(0, 1, 2, 1, 0);
        same("at first", x.delivered(1), 0);
        x.tick();
        same("after a tick", x.delivered(0) + " " + x.delivered(1) + " " + x.delivered(2), "0 2 0");
        x.tick();
        same("after two", x.delivered(1), 3);
        fails("delivered(3)", BOUNDS, () -> x.delivered(3));
        fails("delivered(-1)", BOUNDS, () -> x.delivered(-1));
    }

    private static void fate() {
        DropSwitch x = made("port a 9 1;port b 3 1;port c 4 0;drop if size=9;");
        x.arrive(0, 1, 2, 2, 0);
        x.arrive(0, 1, 2, 2, 0);
        x.arrive(0, 1, 2, 9, 0);
        same("in the queue, and none", x.fate(0, 1) + " " + x.fate(0, 0), "1 0");
        same("dropped at one port", x.fate(1, 1) + " " + x.fate(1, 2), "3 1");
        same("dropped altogether", x.fate(2, 0) + " " + x.fate(2, 1), "0 0");
        x.tick();
        x.link(2, false);
        same("delivered, and lost", x.fate(0, 1) + " " + x.fate(0, 2), "2 3");
        fails("fate(3, 0)", BOUNDS, () -> x.fate(3, 0));
        fails("fate(-1, 0)", BOUNDS, () -> x.fate(-1, 0));
        fails("fate(0, 3)", BOUNDS, () -> x.fate(0, 3));
        fails("fate(0, -1)", BOUNDS, () -> x.fate(0, -1));
    }

    /** Two ports and a third one that is down; drops of several causes. */
    private static DropSwitch troubled() {
        DropSwitch x = made("port a 9 0;port bb 3 0;port c 9 0;drop if size=9;drop if size=8;");
        x.link(2, false);
        x.arrive(0, 1, 2, 2, 0);
        x.arrive(0, 1, 2, 8, 0);
        x.arrive(0, 1, 2, 2, 0);
        x.arrive(0, 1, 2, 3, 1);
        x.arrive(0, 1, 2, 9, 0);
        x.arrive(2, 1, 2, 1, 0);
        x.arrive(0, 1, 2, 8, 0);
        x.arrive(0, 1, 2, 3, 2);
        return x;
    }

    private static void drops() {
        DropSwitch x = troubled();
        about("24 dropField");
        same("drop 0", drop(x, 0), "2 1 -1 2 1");
        same("drop 1", drop(x, 1), "3 2 1 7 -1");
        same("drop 2", drop(x, 2), "4 0 1 8 3");
        same("drop 3", drop(x, 3), "5 4 -1 2 0");
        same("drop 4", drop(x, 4), "6 5 -1 1 -1");
        same("drop 6", drop(x, 6), "8 3 1 8 7");
        fails("dropField(7, 5)", BOUNDS, () -> x.dropField(7, 5));
        fails("dropField(-1, 0)", BOUNDS, () -> x.dropField(-1, 0));
        fails("dropField(0, 5)", ELEMENT, () -> x.dropField(0, 5));
        fails("dropField(0, -1)", ELEMENT, () -> x.dropField(0, -1));
        about("25 firstDrop");
        same("firstDrops", x.firstDrop(0) + " " + x.firstDrop(1) + " " + x.firstDrop(7), "2 0 -1");
        fails("firstDrop(8)", BOUNDS, () -> x.firstDrop(8));
        fails("firstDrop(-1)", BOUNDS, () -> x.firstDrop(-1));
        about("26 dropsBy");
        same("dropsBy", x.dropsBy(1) + " " + x.dropsBy(2) + " " + x.dropsBy(7) + " " + x.dropsBy(8) + " " + x.dropsBy(10),
                "1 3 1 2 0");
        fails("dropsBy(0)", ARGUMENT, () -> x.dropsBy(0));
        fails("dropsBy(11)", ARGUMENT, () -> x.dropsBy(11));
        about("27 dropsByRule");
        same("dropsByRule", x.dropsByRule(0) + " " + x.dropsByRule(1), "1 2");
        fails("dropsByRule(2)", BOUNDS, () -> x.dropsByRule(2));
        fails("dropsByRule(-1)", BOUNDS, () -> x.dropsByRule(-1));
        DropSwitch y = made("port a 3 0;port b 3 0;drop if size=9;");
        y.arrive(0, 1, 2, 1, 1);
        y.arrive(0, 1, 2, 3, 3);
        same("the packet that pushes is no rule", y.dropsByRule(0), 0);
        about("28 pushedBy");
        same("pushedBy", x.pushedBy(3) + " " + x.pushedBy(7) + " " + x.pushedBy(0) + " " + x.pushedBy(1), "1 1 0 0");
        fails("pushedBy(8)", BOUNDS, () -> x.pushedBy(8));
        fails("pushedBy(-1)", BOUNDS, () -> x.pushedBy(-1));
    }

    /** As many drops as can be: three copies of each of 120 packets. */
    private static void mostDrops() {
        DropSwitch x = made("port a 9 1;port b 9 1;port c 9 1;port d 9 1;buffer 1;");
        for (int k = 0; k < 120; k++) {
            same("packet " + k, x.arrive(3, 1, 2, 2, k % 4), 0);
        }
        about("24 dropField");
        same("drops", x.count(4) + " " + drop(x, 0) + " " + drop(x, 359), "360 0 0 0 6 -1 119 119 2 6 -1");
        fails("dropField(360, 0)", BOUNDS, () -> x.dropField(360, 0));
        about("25 firstDrop");
        same("of the last packet", x.firstDrop(119), 357);
        about("26 dropsBy");
        same("BUFFER and LOST", x.dropsBy(DropSwitch.BUFFER) + " " + x.dropsBy(DropSwitch.LOST), "360 0");
        about("28 pushedBy");
        same("none", x.pushedBy(119), 0);
        about("41 saved");
        x.suppose(1, 0, 2);
        same("room for one copy", x.saved() + " " + x.newlyDropped() + " " + x.supposedDrops(), "1 0 359");
        about("44 evidence");
        same("of the last drop", evidence(x, 359) + "; " + evidence(x, 358) + "; " + evidence(x, 0), "119; 119; 0");
        about("45 leastCapacity");
        same("of the last drop", x.leastCapacity(359) + " " + x.leastCapacity(0), "-1 -1");
    }

    private static void checkpoints() {
        DropSwitch x = made("port a 9 0;port b 99 1;port c 9 9;age 3;");
        about("29 checkpoints");
        same("none at first", x.checkpoints(), 0);
        about("30 repeats");
        same("none at first", x.repeats(0), 0);
        fails("repeats(1)", BOUNDS, () -> x.repeats(1));
        for (int k = 0; k < 8; k++) {
            x.arrive(0, k, 60, 1 + k % 3, 0);
            x.tick();
        }
        about("29 checkpoints");
        same("16 events", x.checkpoints(), 1);
        about("30 repeats");
        same("the checkpoint of event 16 is not there yet", x.repeats(16), 16);
        same("repeats(15)", x.repeats(15), 15);
        x.link(2, false);
        about("29 checkpoints");
        same("17 events", x.checkpoints(), 2);
        about("30 repeats");
        same("now it is", x.repeats(16) + " " + x.repeats(17) + " " + x.repeats(15), "0 1 15");
        fails("repeats(18)", BOUNDS, () -> x.repeats(18));
        fails("repeats(-1)", BOUNDS, () -> x.repeats(-1));
        x.rewind(16);
        same("gone again", x.repeats(16) + " " + x.checkpoints(), "16 1");
        ticks(x, 104);
        about("29 checkpoints");
        same("120 events", x.checkpoints(), 8);
        about("30 repeats");
        same("behind all", x.repeats(120) + " " + x.repeats(112), "8 0");
    }

    private static void past() {
        DropSwitch x = made("port a 9 0;port b 99 0;port c 9 9;age 3;");
        about("31 fillAt");
        same("at first", x.fillAt(0, 1), 0);
        for (int k = 0; k < 20; k++) {
            x.arrive(0, k, 60, 1 + k % 2, 0);
        }
        x.tick();
        same("fills", x.fillAt(0, 1) + " " + x.fillAt(1, 1) + " " + x.fillAt(15, 1) + " " + x.fillAt(16, 1)
                + " " + x.fillAt(17, 1) + " " + x.fillAt(20, 2) + " " + x.fillAt(21, 2), "0 1 22 24 25 9 0");
        x.rewind(16);
        x.tick();
        same("another past", x.fillAt(16, 1) + " " + x.fillAt(16, 2) + " " + x.fillAt(17, 2), "24 9 0");
        fails("fillAt(18, 1)", BOUNDS, () -> x.fillAt(18, 1));
        fails("fillAt(-1, 1)", BOUNDS, () -> x.fillAt(-1, 1));
        fails("fillAt(0, 3)", BOUNDS, () -> x.fillAt(0, 3));
        fails("fillAt(0, -1)", BOUNDS, () -> x.fillAt(0, -1));
        about("32 portAt");
        same("learnt by event 3", x.portAt(3, 3) + " " + x.portAt(4, 3) + " " + x.portAt(17, 3), "-1 0 0");
        ticks(x, 3);
        same("too old then", x.portAt(19, 3) + " " + x.portAt(20, 3), "0 -1");
        x.suppose(3, 0, 999);
        same("without the suppositions", x.portAt(20, 3), -1);
        fails("portAt(21, 64)", BOUNDS, () -> x.portAt(21, 64));
        fails("portAt(-1, 0)", BOUNDS, () -> x.portAt(-1, 0));
        fails("portAt(0, 64)", ARGUMENT, () -> x.portAt(0, 64));
        fails("portAt(0, -1)", ARGUMENT, () -> x.portAt(0, -1));
    }

    private static void peak() {
        DropSwitch x = made("port a 9 0;port b 4 1;");
        same("never filled", x.peak(0) + " " + x.peak(1), "-1 -1");
        x.tick();
        x.arrive(0, 1, 2, 2, 0);
        x.arrive(0, 1, 2, 2, 0);
        same("the greatest", x.peak(1), 2);
        x.tick();
        x.arrive(0, 1, 2, 2, 0);
        same("as great again", x.peak(1), 2);
        x.arrive(0, 1, 2, 4, 3);
        same("pushed, but no greater", x.peak(1), 2);
        x.rewind(2);
        same("rewound", x.peak(1), 1);
        same("the other port", x.peak(0), -1);
        fails("peak(2)", BOUNDS, () -> x.peak(2));
        fails("peak(-1)", BOUNDS, () -> x.peak(-1));
    }

    private static void suppose() {
        DropSwitch x = made("port a 9 0;port b 4 1;drop if any;");
        same("a capacity", x.suppose(0, 1, 99), 1);
        same("the same again", x.suppose(0, 1, 1), 1);
        same("the other port", x.suppose(0, 0, 1), 2);
        same("the buffer", x.suppose(1, -7, 400), 3);
        same("the wait limit", x.suppose(2, 99, 99), 4);
        same("the age limit", x.suppose(3, 99, 0), 5);
        same("a rule", x.suppose(4, 0, -99), 6);
        same("the rule again", x.suppose(4, 0, 5), 6);
        same("the age limit again", x.suppose(3, 0, 999), 6);
        fails("suppose(-1)", ELEMENT, () -> x.suppose(-1, 9, 0));
        fails("suppose(5)", ELEMENT, () -> x.suppose(5, 9, 0));
        fails("no such port", BOUNDS, () -> x.suppose(0, 2, 0));
        fails("no port -1", BOUNDS, () -> x.suppose(0, -1, 5));
        fails("no such rule", BOUNDS, () -> x.suppose(4, 1, 0));
        fails("no rule -1", BOUNDS, () -> x.suppose(4, -1, 0));
        fails("capacity 0", ARGUMENT, () -> x.suppose(0, 0, 0));
        fails("capacity 100", ARGUMENT, () -> x.suppose(0, 0, 100));
        fails("buffer 0", ARGUMENT, () -> x.suppose(1, 0, 0));
        fails("buffer 401", ARGUMENT, () -> x.suppose(1, 0, 401));
        fails("wait 0", ARGUMENT, () -> x.suppose(2, 0, 0));
        fails("wait 100", ARGUMENT, () -> x.suppose(2, 0, 100));
        fails("age -1", ARGUMENT, () -> x.suppose(3, 0, -1));
        fails("age 1000", ARGUMENT, () -> x.suppose(3, 0, 1000));
        same("nothing came of that", x.suppose(0, 1, 4), 6);
        about("35 leaveOut");
        x.tick();
        x.tick();
        same("an event", x.leaveOut(1), 1);
        same("the same again", x.leaveOut(1), 1);
        same("another one", x.leaveOut(0), 2);
        fails("leaveOut(2)", BOUNDS, () -> x.leaveOut(2));
        fails("leaveOut(-1)", BOUNDS, () -> x.leaveOut(-1));
        about("36 clearSuppositions");
        same("all", x.clearSuppositions(), 8);
        same("none left", x.clearSuppositions(), 0);
        same("a new one", x.suppose(1, 0, 5), 1);
        x.tick();
        same("an event does not end it", x.clearSuppositions(), 1);
    }

    private static void supposed() {
        DropSwitch x = made("port a 9 0;port b 4 1;port c 9 9;buffer 9;age 1;wait 2;drop if to=5;");
        x.arrive(0, 1, 2, 2, 0);
        x.arrive(0, 1, 5, 1, 0);
        x.arrive(0, 1, 2, 3, 1);
        x.tick();
        x.tick();
        x.arrive(1, 2, 1, 9, 0);
        same("as it is", drop(x, 0) + "; " + drop(x, 1), "1 1 -1 2 0; 2 0 1 8 2");
        about("37 supposedDrops");
        same("without suppositions", x.supposedDrops() + " " + x.saved() + " " + x.newlyDropped(), x.count(4) + " 0 0");
        x.suppose(4, 0, 0);
        same("rule 0 does not hold: packets 0 and 1 are both pushed", x.supposedDrops(), 3);
        about("38 supposedDropsBy");
        same("RULE", x.supposedDropsBy(DropSwitch.RULE) + " " + x.dropsBy(DropSwitch.RULE), "0 1");
        same("PUSHED", x.supposedDropsBy(DropSwitch.PUSHED), 2);
        fails("supposedDropsBy(0)", ARGUMENT, () -> x.supposedDropsBy(0));
        fails("supposedDropsBy(11)", ARGUMENT, () -> x.supposedDropsBy(11));
        about("39 supposedFate");
        same("packet 1", x.supposedFate(1, 1) + " " + x.supposedFate(1, 2) + " " + x.fate(1, 2), "3 2 0");
        about("41 saved");
        same("its drop is none then", x.saved(), 1);
        about("42 newlyDropped");
        same("but its copy is dropped", x.newlyDropped(), 1);
        x.clearSuppositions();
        about("39 supposedFate");
        x.suppose(0, 1, 5);
        same("a greater capacity", x.supposedFate(0, 1) + " " + x.fate(0, 1), "2 3");
        x.clearSuppositions();
        x.leaveOut(2);
        same("packet 2 left out", x.supposedFate(0, 1) + " " + x.supposedFate(2, 1) + " " + x.supposedFate(2, 2), "2 0 0");
        fails("supposedFate(4, 0)", BOUNDS, () -> x.supposedFate(4, 0));
        fails("supposedFate(-1, 0)", BOUNDS, () -> x.supposedFate(-1, 0));
        fails("supposedFate(0, 3)", BOUNDS, () -> x.supposedFate(0, 3));
        about("40 supposedDelivered");
        same("deliveries", x.supposedDelivered(1) + " " + x.supposedDelivered(2) + " " + x.delivered(2), "1 1 2");
        fails("supposedDelivered(3)", BOUNDS, () -> x.supposedDelivered(3));
        fails("supposedDelivered(-1)", BOUNDS, () -> x.supposedDelivered(-1));
        about("37 supposedDrops");
        x.clearSuppositions();
        x.suppose(3, 0, 2);
        same("a greater age limit: only to a", x.supposedFate(3, 0) + " " + x.supposedFate(3, 2), "1 0");
        same("before", x.fate(3, 0) + " " + x.fate(3, 2), "1 3");
        x.clearSuppositions();
        x.suppose(1, 0, 4);
        same("a smaller buffer", x.supposedDropsBy(DropSwitch.BUFFER), 4);
        x.arrive(0, 1, 5, 1, 0);
        same("later events are in it", x.supposedDrops() - x.supposedDropsBy(DropSwitch.RULE), 4);
        DropSwitch y = made("port a 9 0;port b 9 0;");
        y.arrive(0, 1, 2, 1, 0);
        ticks(y, 2);
        y.suppose(2, 0, 1);
        same("a smaller wait limit", y.supposedDropsBy(DropSwitch.STALE) + " " + y.count(4), "1 0");
        same("newly dropped", y.newlyDropped(), 1);
        y.rewind(2);
        same("the suppositions are over", y.supposedDrops(), 0);
        supposedAnew();
    }

    /** Each question is the first one behind a change of the suppositions. */
    private static void supposedAnew() {
        String text = "port a 9 1;port b 2 1;port c 9 1;port d 9 1;wait 9;age 9;drop if to=9;drop if to=8;";
        DropSwitch x = made(text);
        x.arrive(0, 1, 9, 1, 0);
        x.arrive(0, 1, 8, 1, 0);
        x.arrive(0, 1, 2, 2, 0);
        x.arrive(0, 1, 2, 1, 0);
        x.tick();
        about("40 supposedDelivered");
        same("at first", x.supposedDelivered(1), 1);
        x.leaveOut(4);
        same("the tick left out", x.supposedDelivered(1), 0);
        x.clearSuppositions();
        same("and back", x.supposedDelivered(1), 1);
        about("39 supposedFate");
        x.leaveOut(2);
        same("packet 2 left out", x.supposedFate(3, 1), 2);
        about("41 saved");
        x.clearSuppositions();
        same("nothing is supposed", x.saved(), 0);
        x.suppose(4, 1, 0);
        same("rule 1 alone: packet 1, and packet 3 for packet 2", x.saved() + " " + x.supposedFate(1, 2), "2 2");
        x.suppose(4, 0, 0);
        same("both rules", x.saved() + " " + x.supposedFate(0, 2), "2 2");
        about("42 newlyDropped");
        x.clearSuppositions();
        same("nothing is supposed", x.newlyDropped(), 0);
        x.suppose(0, 3, 1);
        same("a smaller capacity of d: packet 2", x.newlyDropped() + " " + x.supposedFate(2, 3), "1 3");
        x.clearSuppositions();
        x.suppose(0, 0, 1);
        same("of a: none", x.newlyDropped(), 0);
        x.suppose(2, 0, 1);
        x.suppose(3, 0, 1);
        same("the wait and the age limit are no capacities", x.newlyDropped(), 0);
        about("37 supposedDrops");
        x.tick();
        same("c and d: packet 3 goes in time", x.supposedDrops() + " " + x.supposedDelivered(3), "3 2");
        x.rewind(0);
        same("no events", x.supposedDrops(), 0);
    }

    private static void explanations() {
        DropSwitch x = made("port a 9 0;port b 4 1;drop if at a and to=7;drop if size=9;pass if size=7;drop if to=8;");
        x.arrive(0, 1, 2, 2, 0);
        x.tick();
        x.arrive(0, 1, 2, 3, 0);
        x.arrive(0, 1, 2, 2, 1);
        x.arrive(0, 1, 2, 4, 2);
        x.arrive(0, 1, 7, 9, 0);
        x.arrive(0, 1, 8, 9, 0);
        x.arrive(0, 1, 7, 1, 0);
        x.arrive(0, 1, 3, 1, 1);
        same("drops", drop(x, 0) + "; " + drop(x, 1) + "; " + drop(x, 5), "3 1 1 8 2; 4 2 1 8 3; 8 7 1 7 -1");
        about("43 evidenceCount");
        same("of packet 1", x.evidenceCount(0), 1);
        same("of packet 2", x.evidenceCount(1), 2);
        same("of packet 7", x.evidenceCount(5), 2);
        same("again", x.evidenceCount(1), 2);
        fails("evidenceCount(6)", BOUNDS, () -> x.evidenceCount(6));
        fails("evidenceCount(-1)", BOUNDS, () -> x.evidenceCount(-1));
        about("44 evidence");
        same("packet 1 is pushed by either", evidence(x, 0), "2");
        same("packet 2", evidence(x, 1), "3 4");
        same("packet 7", evidence(x, 5), "4 8");
        same("none", x.evidence(1, 2) + " " + x.evidence(1, -1) + " " + x.evidence(1, Integer.MAX_VALUE), "-1 -1 -1");
        fails("evidence(6, 0)", BOUNDS, () -> x.evidence(6, 0));
        fails("evidence(-1, 0)", BOUNDS, () -> x.evidence(-1, 0));
        about("45 leastCapacity");
        same("room for packets 1, 2, 3 and 7", x.leastCapacity(0), 3 + 2 + 4 + 1);
        same("room for packet 7 alone", x.leastCapacity(5), 1);
        same("no port", x.leastCapacity(2), -1);
        fails("leastCapacity(6)", BOUNDS, () -> x.leastCapacity(6));
        fails("leastCapacity(-1)", BOUNDS, () -> x.leastCapacity(-1));
        about("46 savingRules");
        same("two rules would drop packet 4", x.savingRules(2), 0);
        same("and packet 5", x.savingRules(3), 0);
        same("one rule packet 6", x.savingRules(4), 1);
        same("no rule", x.savingRules(1), 0);
        x.leaveOut(3);
        x.suppose(4, 0, 0);
        same("suppositions do not count", x.savingRules(4) + " " + evidence(x, 1) + " " + x.leastCapacity(0), "1 3 4 10");
        fails("savingRules(6)", BOUNDS, () -> x.savingRules(6));
        fails("savingRules(-1)", BOUNDS, () -> x.savingRules(-1));
        moreExplanations();
    }

    private static void moreExplanations() {
        about("44 evidence");
        DropSwitch x = made("port a 9 0;port b 9 0;port c 9 0;");
        ticks(x, 20);
        x.arrive(1, 2, 9, 1, 0);
        x.link(2, false);
        x.arrive(1, 2, 2, 1, 0);
        x.link(1, false);
        x.arrive(0, 1, 5, 1, 0);
        same("LOST", drop(x, 0) + " evidence " + evidence(x, 0), "21 0 2 10 -1 evidence 20 21");
        same("BACK", drop(x, 1) + " evidence " + evidence(x, 1), "22 1 -1 4 -1 evidence 22");
        same("NOWHERE", drop(x, 2) + " evidence " + evidence(x, 2), "24 2 -1 5 -1 evidence 21 23 24");
        x.rewind(23);
        x.arrive(0, 1, 5, 1, 0);
        same("other events", x.count(4) + " " + evidence(x, 1), "2 22");
        about("45 leastCapacity");
        DropSwitch y = made("port a 9 0;port b 5 0;wait 1;buffer 6;");
        y.arrive(0, 1, 2, 5, 0);
        y.arrive(0, 1, 2, 2, 0);
        same("of a BUFFER drop: a smaller one keeps the first packet out", drop(y, 0) + " " + y.leastCapacity(0), "1 1 1 6 -1 2");
        ticks(y, 2);
        same("now it would be stale", y.leastCapacity(0), -1);
        same("of a STALE drop: a smaller one keeps the packet out, but drops it", drop(y, 1) + " " + y.leastCapacity(1), "3 0 1 9 -1 -1");
        DropSwitch most = made("port a 9 0;port b 9 0;");
        for (int k = 0; k < 12; k++) {
            most.arrive(0, 1, 2, 9, 0);
        }
        same("room for 11 packets", drop(most, 9) + " " + most.leastCapacity(9), "10 10 1 7 -1 99");
        same("none has room for 12", drop(most, 10) + " " + most.leastCapacity(10), "11 11 1 7 -1 -1");
        about("46 savingRules");
        DropSwitch z = made("port a 9 0;port b 5 0;pass if size=4;drop if size<4;drop if size=5;");
        z.arrive(0, 1, 2, 4, 0);
        z.arrive(0, 1, 2, 3, 0);
        z.arrive(0, 1, 2, 5, 1);
        same("bits", z.savingRules(0) + " " + z.savingRules(1), "2 4");
        manyDrops();
    }

    /** More drops than a long has bits: the link is down, and rule 1 would drop each second packet. */
    private static void manyDrops() {
        DropSwitch x = made("port a 9 0;port b 9 0;drop if at b;drop if from=1;");
        x.link(0, false);
        for (int k = 0; k < 90; k++) {
            x.arrive(0, k % 2, 9, 1, 0);
        }
        same("all are DOWN", x.dropsBy(DropSwitch.DOWN), 90);
        about("44 evidence");
        same("asked for at once: the rule would drop it", x.evidence(89, 1) + " " + x.evidence(89, 0), "-1 90");
        same("of an even one", evidence(x, 88), "0 89");
        same("of earlier ones", evidence(x, 8) + "; " + evidence(x, 32) + "; " + evidence(x, 33), "0 9; 0 33; 34");
        x.rewind(70);
        x.link(0, true);
        x.arrive(0, 1, 9, 1, 0);
        about("43 evidenceCount");
        same("after other events", x.evidenceCount(69) + " " + x.evidence(69, 0) + " " + x.evidenceCount(65), "1 71 1");
        about("46 savingRules");
        same("of the last one", x.savingRules(69) + " " + x.savingRules(68), "2 0");
    }

    private static void formatted() {
        DropSwitch x = troubled();
        about("47 formatDrop");
        String[] texts = {"1@2 rule=1", "2@3 full bb", "0@4 pushed=3 bb", "4@5 rule=0", "5@6 down"};
        for (int drop = 0; drop < texts.length; drop++) {
            same("the length of " + texts[drop], x.formatDrop(drop), texts[drop].length());
            same("drop " + drop, formatted(x), texts[drop]);
        }
        fails("formatDrop(7)", BOUNDS, () -> x.formatDrop(7));
        fails("formatDrop(-1)", BOUNDS, () -> x.formatDrop(-1));
        same("the text stays", formatted(x), "5@6 down");
        DropSwitch y = made("port a 1 0;port abcxyz 9 1;port c 9 0;police a 9 9;buffer 17;age 99;wait 1;");
        y.arrive(1, 5, 1, 7, 0);
        y.arrive(1, 5, 5, 7, 0);
        y.arrive(2, 6, 1, 9, 0);
        y.arrive(2, 6, 1, 9, 0);
        y.arrive(0, 1, 60, 9, 0);
        y.arrive(0, 1, 60, 9, 0);
        y.tick();
        y.tick();
        y.arrive(0, 1, 60, 9, 0);
        y.link(2, false);
        y.link(1, false);
        y.arrive(0, 1, 60, 9, 0);
        y.tick();
        y.arrive(0, 1, 60, 9, 0);
        StringBuilder all = new StringBuilder();
        for (int drop = 0; drop < y.count(4); drop++) {
            y.formatDrop(drop);
            all.append(formatted(y)).append("; ");
        }
        same("other causes", all.toString(), "0@0 full a; 1@1 back; 2@2 full a; 3@3 buffer a; "
                + "3@3 buffer abcxyz; 4@4 buffer abcxyz; 4@4 buffer c; 5@5 policed; 0@7 stale c; 6@8 buffer c; "
                + "6@10 lost abcxyz; 7@11 policed; 8@13 nowhere; ");
        about("48 formatQueue");
        DropSwitch z = made("port q 9 0;port abcxyz 99 0;");
        same("an empty queue", z.formatQueue(0) + formatted(z), "1q");
        for (int k = 0; k < 99; k++) {
            z.arrive(0, 1, 2, 1, k % 4);
        }
        same("the length", z.formatQueue(1), 6 + 10 * 4 + 89 * 5);
        same("the text", formatted(z, 0, 22) + formatted(z, 486, MAX), "abcxyz 0.0 1.1 2.2 3.3" + " 98.2");
        fails("formatQueue(2)", BOUNDS, () -> z.formatQueue(2));
        fails("formatQueue(-1)", BOUNDS, () -> z.formatQueue(-1));
        ticks(z, 1);
        z.rewind(0);
        for (int k = 0; k < 21; k++) {
            z.arrive(0, 1, 1, 1, 0);
        }
        for (int k = 0; k < 99; k++) {
            z.arrive(0, 1, 2, 1, 3);
        }
        same("three digits", z.formatQueue(1), 6 + 79 * 5 + 20 * 6);
        same("its end", formatted(z, 515, MAX), " 119.3");
        about("49 formattedByte");
        same("bytes", z.formattedByte(0) + " " + z.formattedByte(520) + " " + z.formattedByte(521), "97 51 -1");
        same("out of range", z.formattedByte(-1) + z.formattedByte(Integer.MIN_VALUE) + z.formattedByte(Integer.MAX_VALUE), -3);
        z.formatQueue(0);
        same("the shorter text replaces the longer one", z.formattedByte(1), -1);
    }

    private static void constants() {
        int[] got = {
            DropSwitch.NONE, DropSwitch.DOWN, DropSwitch.RULE, DropSwitch.POLICED, DropSwitch.BACK, DropSwitch.NOWHERE,
            DropSwitch.BUFFER, DropSwitch.FULL, DropSwitch.PUSHED, DropSwitch.STALE, DropSwitch.LOST,
            DropSwitch.SYNTAX, DropSwitch.BAD_NUMBER, DropSwitch.BAD_NAME, DropSwitch.TOO_MANY
        };
        int[] want = {-1, 1, 2, 3, 4, 5, 6, 7, 8, 9, 10, 1, 2, 3, 4};
        same("constants", java.util.Arrays.toString(got), java.util.Arrays.toString(want));
    }

    /** No promise is left without an answer that was looked at. */
    private static void allPromises() {
        Matcher heading = Pattern.compile("(?m)^## Promise (\\d+: .+)$").matcher(DOCUMENT);
        int promises = 0;
        while (heading.find()) {
            promises++;
            String title = heading.group(1).replace(": ", " ");
            same("answers on " + title, wasLookedAt(title), true);
        }
        same("how many promises the document has", promises, 49);
    }

    public static void main(String[] args) {
        test("the constants", PromisesTest::constants);
        test("1 A new object", PromisesTest::newObject);
        test("2 append", PromisesTest::append);
        test("3 truncate", PromisesTest::truncate);
        test("4 load", PromisesTest::load);
        test("5 errorOffset", PromisesTest::errorOffset);
        test("6 errorKind", PromisesTest::errorKind);
        test("7 count", PromisesTest::count);
        test("8 arrive", PromisesTest::arrive);
        test("9 tick", PromisesTest::tick);
        test("10 link", PromisesTest::link);
        test("11 rewind", PromisesTest::rewind);
        test("12 eventKind", PromisesTest::eventKind);
        test("15 fill", PromisesTest::queues);
        test("19 tokens", PromisesTest::tokens);
        test("20 portOf", PromisesTest::table);
        test("21 tableSize", PromisesTest::tableSize);
        test("22 delivered", PromisesTest::delivered);
        test("23 fate", PromisesTest::fate);
        test("24 dropField", PromisesTest::drops);
        test("8 arrive", PromisesTest::mostDrops);
        test("29 checkpoints", PromisesTest::checkpoints);
        test("31 fillAt", PromisesTest::past);
        test("33 peak", PromisesTest::peak);
        test("34 suppose", PromisesTest::suppose);
        test("37 supposedDrops", PromisesTest::supposed);
        test("43 evidenceCount", PromisesTest::explanations);
        test("47 formatDrop", PromisesTest::formatted);
        if (!DOCUMENT.isEmpty()) {
            test("all promises", PromisesTest::allPromises);
        }
        end("PromisesTest");
    }
}
