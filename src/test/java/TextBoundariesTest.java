/** The input text and the calls that take it: for each sentence that names a boundary case a test of its own. */
public final class TextBoundariesTest extends Due {
    private static final String FOUR_PORTS = "port a 1 1;port b 1 1;port c 1 1;port d 1 1;";
    private static final String EIGHT_RULES = "pass if any;drop if any;".repeat(4);

    // ---- the text

    private static void wholeText() {
        says("The text has at most 600 bytes.", () -> {
            String most = "age 1;".repeat(99);
            same("599 bytes", error(most + "age 1"), "599 1");
            same("600 bytes", error(most + "age 1;"), "no error");
            same("the last byte counts", error(most + "age 1,"), "599 1");
            same("no byte behind the last one is read", error(most + "age 11"), "600 1");
            DropSwitch x = new DropSwitch();
            feed(x, most + "age 1;");
            same("no byte more is taken", x.append(0, 0, 0, 0, 0), -1);
            same("and all before stay right", x.load(), 0);
        });
        says("text = { line \";\" }.", () -> {
            same("no line", made("").count(0), 0);
            same("blanks alone", made(" \n\t").count(0), 0);
            same("no rules", made("").count(1), 0);
            same("a line", made("port a 1 1;").count(0), 1);
            same("many lines", error("age 1;".repeat(100)), "no error");
            same("no empty line", error(";"), "0 1");
            same("no second semicolon", error("age 1;;"), "6 1");
            same("no line without a semicolon", error("age 1 age 2;"), "6 1");
            same("not even the last one", error("age 1;age 2"), "11 1");
        });
        says("line = \"port\" name number number | \"police\" name number number | \"buffer\" number | \"age\" number | "
                + "\"wait\" number | ( \"pass\" | \"drop\" ) \"if\" condition.", () -> {
            same("port with nothing", error("port;"), "4 1");
            same("port with a name alone", error("port a;"), "6 1");
            same("port with one number", error("port a 1;"), "8 1");
            same("port with a third number", error("port a 1 1 1;"), "11 1");
            same("port without a name", error("port 1 1;"), "5 1");
            String port = "port a 1 1;";
            same("police with nothing", error(port + "police;"), "17 1");
            same("police with a name alone", error(port + "police a;"), "19 1");
            same("police with one number", error(port + "police a 1;"), "21 1");
            same("police with a third number", error(port + "police a 1 1 1;"), "24 1");
            for (String word : new String[] {"buffer", "age", "wait"}) {
                int length = word.length();
                same(word + " with nothing", error(word + ";"), length + " 1");
                same(word + " with a number", error(word + " 1;"), "no error");
                same(word + " with two numbers", error(word + " 1 1;"), (length + 3) + " 1");
            }
            for (String word : new String[] {"pass", "drop"}) {
                same(word + " with nothing", error(word + ";"), "4 1");
                same(word + " without if", error(word + " any;"), "5 1");
                same(word + " without a condition", error(word + " if;"), "7 1");
                same(word + " with a condition", error(word + " if any;"), "no error");
                same(word + " with if twice", error(word + " if if any;"), "8 1");
            }
        });
        says("value = \"from\" | \"to\" | \"size\" | \"class\".", () -> {
            String[] values = {"from", "to", "size", "class"};
            int[][] ranges = {{0, 63}, {0, 63}, {1, 9}, {0, 3}};
            for (int k = 0; k < values.length; k++) {
                for (int value : ranges[k]) {
                    DropSwitch x = made("port a 9 1;drop if " + values[k] + "=" + value + ";");
                    int[] packet = {30, 31, 5, 1};
                    x.arrive(0, packet[0], packet[1], packet[2], packet[3]);
                    packet[k] = value;
                    x.arrive(0, packet[0], packet[1], packet[2], packet[3]);
                    same(values[k] + "=" + value, x.dropsByRule(0) + " " + x.dropField(1, 1), "1 1");
                }
            }
            same("no other value", error("drop if port=1;"), "8 1");
        });
        says("condition = all { \"or\" all }.", () -> {
            same("no part", error("drop if ;"), "8 1");
            same("one part", drops("any"), true);
            same("two parts, the last one true", drops("at b or any"), true);
            same("two parts, none true", drops("at b or to=9"), false);
            same("many parts, the last one true", drops("at b or ".repeat(60) + "any"), true);
            same("many parts, the first one true", drops("any" + " or at b".repeat(60)), true);
            same("many parts, none true", drops("at b or ".repeat(60) + "at b"), false);
            same("no part behind the last or", error("drop if any or;"), "14 1");
            same("no part ahead of the first or", error("drop if or any;"), "8 1");
        });
        says("all = atom { \"and\" atom }.", () -> {
            same("one part", drops("not any"), false);
            same("two parts, the last one false", drops("any and not any"), false);
            same("many parts, the last one false", drops("any and ".repeat(60) + "not any"), false);
            same("many parts, the first one false", drops("not any" + " and any".repeat(60)), false);
            same("many parts, all true", drops("any and ".repeat(60) + "any"), true);
            same("no part behind the last and", error("drop if any and;"), "15 1");
            same("no part ahead of the first and", error("drop if and any;"), "8 1");
            same("no two parts without and", error("drop if any any;"), "12 1");
        });
        says("atom = \"not\" atom | \"(\" condition \")\" | \"at\" name | \"any\" | value ( \"<\" | \"=\" | \">\" ) number.", () -> {
            same("not of nothing", error("drop if not;"), "11 1");
            same("not of an and part alone", drops("not any and at b"), false);
            same("not of the first part alone", drops("not any or any"), true);
            same("empty brackets", error("drop if ();"), "9 1");
            same("a bracket that stays open", error("drop if (any;"), "12 1");
            same("a bracket that was not open", error("drop if any);"), "11 1");
            same("at without a name", error("drop if at;"), "10 1");
            same("no sign", error("drop if to 3;"), "11 1");
            same("two signs", error("drop if to<=3;"), "11 1");
            same("no number", error("drop if to<;"), "11 1");
            same("no number below 0", error("drop if to<-1;"), "11 1");
            String[] values = {"from", "to", "size", "class"};
            int[] ofPacket = {1, 2, 3, 1};
            for (int k = 0; k < values.length; k++) {
                for (int number = ofPacket[k] - 1; number <= ofPacket[k] + 1; number++) {
                    same(values[k] + " and " + number, drops(values[k] + "<" + number) + " " + drops(values[k] + "=" + number)
                            + " " + drops(values[k] + ">" + number),
                            (ofPacket[k] < number) + " " + (ofPacket[k] == number) + " " + (ofPacket[k] > number));
                }
            }
        });
    }

    private static void tokens() {
        says("A word is a longest run of letters a to z.", () -> {
            same("a and z", error("port az 1 1;"), "no error");
            same("the byte ahead of a", error("port a` 1 1;"), "6 1");
            same("the byte behind z", error("port z{ 1 1;"), "6 1");
            same("no capital A", error("port A 1 1;"), "5 1");
            same("no capital Z", error("port aZ 1 1;"), "6 1");
            same("no letter above 127", error("port a\u00e1 1 1;"), "6 1");
            same("the longest run, not a part of it", error("portb 1 1;"), "0 1");
            same("words that touch are one", error("drop if notany;"), "8 1");
        });
        says("A name is a word of 1 to 6 letters; a keyword can be a name, too.", () -> {
            same("no letter", error("port 1 1;"), "5 1");
            same("1 letter", error("port a 1 1;"), "no error");
            same("6 letters", error("port abcdef 1 1;"), "no error");
            same("7 letters", error("port abcdefg 1 1;"), "5 1");
            same("7 letters elsewhere", error("port abcdef 1 1;drop if at abcdefg;"), "27 1");
            same("27 letters", error("port abcdefghijklmnopqrstuvwxyza 1 1;"), "5 1");
            String[] keywords = {
                "port", "police", "buffer", "age", "wait", "pass", "drop", "if", "or", "and", "not", "at", "any",
                "from", "to", "size", "class"
            };
            for (String name : keywords) {
                DropSwitch x = made("port " + name + " 7 1;police " + name + " 1 2;drop if at " + name + ";");
                same(name, x.formatQueue(0) + formatted(x) + x.tokens(0), name.length() + name + 2);
            }
            DropSwitch z = made("port zzzzzz 1 1;port azzzzz 1 1;port zzzzz 1 1;port a 1 1;");
            StringBuilder names = new StringBuilder();
            for (int port = 0; port < 4; port++) {
                z.formatQueue(port);
                names.append(formatted(z)).append(' ');
            }
            same("names keep all of their letters", names.toString(), "zzzzzz azzzzz zzzzz a ");
        });
        says("A number is a longest run of digits; it has 1 to 3 digits.", () -> {
            same("no digit", error("age ;"), "4 1");
            same("1 digit", error("age 0;"), "no error");
            same("3 digits", error("age 999;"), "no error");
            same("3 digits, two of them leading", error("age 007;"), "no error");
            same("4 digits", error("age 0007;"), "4 2");
            same("4 digits at the end of the text", error("age 0007"), "4 2");
            same("the byte ahead of 0", error("age 1/;"), "5 1");
            same("the byte behind 9", error("age 9:;"), "5 1");
            same("two runs are not one", error("age 1 2;"), "6 1");
            same("the value of three digits", made("port a 99 0;police a 0 099;").tokens(0), 99);
            same("so many digits that an int would wrap around", error("age 4294967297;"), "4 2");
        });
        says("Spaces, tabs and line feeds (bytes 32, 9 and 10) may stand before the first token, between any two tokens, "
                + "and behind the last one.", () -> {
            same("everywhere", made(" \t\nport\t\na\n 5 \t2\n;\t drop \n if  (\tnot\n at\ta ) and to \n < \t 3 ; \n\t").count(1), 1);
            same("nowhere but where a word would grow", made("port a5 2;drop if(not at a)and to<3;").count(1), 1);
            for (int sign = 0; sign < 256; sign++) {
                boolean isBlank = sign == 32 || sign == 9 || sign == 10;
                boolean isLetter = sign >= 'a' && sign <= 'z';
                boolean isDigit = sign >= '0' && sign <= '9';
                String between = isBlank || isDigit ? "no error" : isLetter ? "0 1" : "3 1";
                same("the byte " + sign + " between two tokens", error("age" + (char) sign + "1;"), between);
                String first = isBlank ? "no error" : "0 1";
                same("the byte " + sign + " before the first token", error((char) sign + "age 1;"), first);
                String last = isBlank ? "no error" : "6 1";
                same("the byte " + sign + " behind the last token", error("age 1;" + (char) sign), last);
            }
        });
    }

    private static void lines() {
        says("\"port\" adds a port with its name, its capacity and its speed; names of ports must be different.", () -> {
            same("four different names", error("port a 1 1;port aa 1 1;port b 1 1;port ab 1 1;"), "no error");
            same("the first name again", error("port a 1 1;port b 1 1;port a 1 1;"), "27 3");
            same("the latest name again", error("port a 1 1;port b 1 1;port b 1 1;"), "27 3");
            same("a name of 6 letters again", error("port abcdef 1 1;port abcdef 1 1;"), "21 3");
            DropSwitch x = made("port a 1 1;");
            feed(x, "port a 1 1;port b 1 1;");
            same("the names of the text before do not count", x.load(), 2);
        });
        says("\"police\" gives a policer with its rate and its burst to an earlier port, in place of an earlier one.", () -> {
            DropSwitch x = made("port a 9 1;port b 9 1;police a 1 9;police b 2 8;police a 3 7;");
            same("in place of the earlier one", x.tokens(0) + " " + x.tokens(1), "7 8");
            x.arrive(0, 1, 2, 7, 0);
            x.tick();
            same("its rate, too", x.tokens(0), 3);
            same("no policer", made("port a 9 1;port b 9 1;police b 1 1;").tokens(0), -1);
            same("a later port", error("police a 1 1;port a 9 1;"), "7 3");
            same("no port", error("police b 1 1;"), "7 3");
        });
        says("Of several lines \"buffer\", \"age\" or \"wait\" the last one counts.", () -> {
            for (int last = 0; last < 2; last++) {
                String end = last == 0 ? "buffer 9;buffer 2;age 9;age 1;wait 9;wait 1;" : "buffer 2;buffer 9;age 1;age 9;wait 1;wait 9;";
                DropSwitch x = made("port a 9 0;port b 9 0;" + end);
                x.arrive(0, 1, 2, 2, 0);
                x.arrive(0, 1, 2, 2, 0);
                ticks(x, 2);
                same("the last ones are " + end, x.dropsBy(DropSwitch.BUFFER) + " " + x.dropsBy(DropSwitch.STALE)
                        + " " + x.portOf(1), last == 0 ? "1 1 -1" : "0 0 0");
            }
        });
        says("\"pass\" and \"drop\" add a rule.", () -> {
            same("none", made("port a 1 1;").count(1), 0);
            same("one", made("pass if any;").count(1) + " " + made("drop if any;").count(1), "1 1");
            same("eight", made(EIGHT_RULES).count(1), 8);
            same("no 9th one", error(EIGHT_RULES + "pass if any;"), "96 4");
        });
        says("\"at\" holds for packets that arrive at the port (one told earlier, too), \"any\" for all packets; "
                + "\"from\" is the source, \"to\" the target of the packet.", () -> {
            String text = "port a 9 1;port b 9 1;port c 9 1;drop if at b;";
            DropSwitch x = made(text);
            x.arrive(0, 1, 2, 1, 0);
            x.arrive(2, 1, 2, 1, 0);
            same("at other ports", x.dropsByRule(0), 0);
            x.arrive(1, 1, 2, 1, 0);
            same("at the port", x.dropsByRule(0), 1);
            same("the first port", drops("at a"), true);
            same("a port told later", error("port a 9 1;drop if at b;port b 9 1;"), "22 3");
            same("source and target are two", "" + drops("from=1") + drops("from=2") + drops("to=1") + drops("to=2"),
                    "truefalsefalsetrue");
        });
        says("A number that is compared is 0 to 999.", () -> {
            same("0", "" + drops("to<0") + drops("to=0") + drops("to>0"), "falsefalsetrue");
            same("999", "" + drops("to<999") + drops("to=999") + drops("to>999"), "truefalsefalse");
            same("1000", error("drop if to<1000;"), "11 2");
            DropSwitch x = made("port a 9 1;drop if from=0 and to=63;");
            x.arrive(0, 0, 63, 1, 0);
            same("the least and the greatest address", x.dropsByRule(0), 1);
        });
        says("\"not\" and \"(\" together nest at most 5 deep.", () -> {
            same("five nots", drops("not not not not not at b"), true);
            same("five brackets", drops("(((((any)))))"), true);
            same("five of both", drops("not(not(not at b))"), true);
            same("a sixth not", error("drop if not not not not not not any;"), "28 4");
            same("a sixth bracket", error("drop if ((((((any))))));"), "13 4");
            same("a sixth one of both", error("drop if (not(not(not any)));"), "17 4");
            same("five again behind the first five", drops("(((((any))))) and not not not not not at b or at b"), true);
            same("in each rule anew", made("drop if (((((any)))));".repeat(8)).count(1), 8);
            same("a sixth one behind the first five", error("drop if (((((any))))) and ((((((any"), "31 4");
        });
    }

    // ---- errors in the text

    private static void errors() {
        says("The error offset is the offset of the first byte at which no correct text can go on; a wrong word or number "
                + "counts at its first byte; if the text ends too early, it is the length of the text.", () -> {
            same("a wrong byte at the beginning", error("!"), "0 1");
            same("a wrong byte", error("age 1!"), "5 1");
            same("the first one of two", error("age 1!?"), "5 1");
            same("a wrong word at its first byte", error("age 1;agee 1;"), "6 1");
            same("a wrong number at its first byte", error("age 1;wait 100;"), "11 2");
            same("not at the blanks ahead of it", error("age 1; \n wait \t 100;"), "16 2");
            same("ends behind a word", error("age"), "3 1");
            same("ends behind a number", error("age 1"), "5 1");
            same("ends behind blanks", error("age 1 \n"), "7 1");
            same("ends behind a sign", error("drop if to<"), "11 1");
            same("ends behind if", error("drop if"), "7 1");
            same("ends behind not", error("drop if not "), "12 1");
            same("ends in a bracket", error("drop if (any"), "12 1");
            same("ends behind a name", error("port a"), "6 1");
            same("ends behind port", error("port "), "5 1");
            same("ends behind 600 bytes", error("age 1;".repeat(99) + "age   "), "600 1");
            DropSwitch x = new DropSwitch();
            feed(x, "age 1;age 2;");
            x.truncate(11);
            fails("bytes that were cut off do not count", ARGUMENT, x::load);
            same("the length then", x.errorOffset(), 11);
        });
        says("There are four kinds of errors.", () ->
            same("they differ", DropSwitch.SYNTAX + " " + DropSwitch.BAD_NUMBER + " " + DropSwitch.BAD_NAME + " "
                    + DropSwitch.TOO_MANY, "1 2 3 4"));
        says("TOO_MANY: a 5th port or a 9th rule, at the first word of the line; a sixth \"not\" or \"(\" that is open at the "
                + "same time, at it.", () -> {
            same("four ports", error(FOUR_PORTS), "no error");
            same("a 5th port", error(FOUR_PORTS + " port e 1 1;"), "45 4");
            same("a 5th port with a bad name", error(FOUR_PORTS + "port a 1 1;"), "44 4");
            same("the word alone", error(FOUR_PORTS + "port"), "44 4");
            same("eight rules", error(EIGHT_RULES), "no error");
            same("a 9th rule that passes", error(EIGHT_RULES + "\npass if any;"), "97 4");
            same("a 9th rule that drops", error(EIGHT_RULES + "drop if any;"), "96 4");
            same("the word alone", error(EIGHT_RULES + "drop"), "96 4");
            same("ports do not count for rules", error(FOUR_PORTS + EIGHT_RULES), "no error");
            same("policers do not count for ports", error(FOUR_PORTS + "police a 1 1;".repeat(9)), "no error");
            same("a sixth not", error("drop if (((((not any)))));"), "13 4");
            same("a sixth bracket", error("drop if not not not not not (any);"), "28 4");
        });
        says("BAD_NAME: a name of a port that is used already where a port is added, and a name that is not that of a port "
                + "told earlier elsewhere.", () -> {
            same("used already", error("port ab 1 1;port ab 1 1;"), "17 3");
            same("used already, with a wrong number behind", error("port ab 1 1;port ab 0 1;"), "17 3");
            same("a policer for no port", error("port ab 1 1;police a 1 1;"), "19 3");
            same("a policer for none of four ports", error(FOUR_PORTS + "police e 1 1;"), "51 3");
            same("at none of four ports", error(FOUR_PORTS + "drop if at e;"), "55 3");
            same("a policer for a longer name", error("port ab 1 1;police abc 1 1;"), "19 3");
            same("at no port", error("port ab 1 1;drop if at ba;"), "23 3");
            same("at a port, without ports", error("drop if at a;"), "11 3");
        });
        says("BAD_NUMBER: a number with more than 3 digits or out of its range.", () -> {
            same("more than 3 digits, in the range", error("age 0001;"), "4 2");
            same("capacities", error("port a 0 1;") + ", " + error("port a 100 1;"), "7 2, 7 2");
            same("a speed", error("port a 1 10;"), "9 2");
            same("a rate", error("port a 1 1;police a 100 1;"), "20 2");
            same("a burst", error("port a 1 1;police a 1 100;"), "22 2");
            same("buffers", error("buffer 0;") + ", " + error("buffer 401;"), "7 2, 7 2");
            same("an age limit", error("age 1000;"), "4 2");
            same("wait limits", error("wait 0;") + ", " + error("wait 100;"), "5 2, 5 2");
            same("a number compared", error("drop if class=1000;"), "14 2");
            same("the first of two", error("port a 0 10;"), "7 2");
        });
        says("SYNTAX: everything else.", () -> {
            same("a word where no word is", error("age one;"), "4 1");
            same("a number where no number is", error("1;"), "0 1");
            same("a sign where no sign is", error("age = 1;"), "4 1");
            same("no if", error("pass any;"), "5 1");
            same("an unknown value", error("drop if rank=1;"), "8 1");
            same("two names", error("port a b 1 1;"), "7 1");
            same("a number too many", error("port a 1 1 1;"), "11 1");
            same("a byte above 127", error("\u00ff"), "0 1");
            wrongLetters();
        });
    }

    /** Each letter of each keyword is put in another one's place: the word is wrong then, at its first byte. */
    private static void wrongLetters() {
        String ports = "port q 1 1;";
        String text = ports + "police q 1 1;buffer 1;age 1;wait 1;pass if any and at q;drop if not to=1 or from<1 or size>1 or class=1;";
        same("the right text", error(text), "no error");
        for (int at = 0; at < text.length(); at++) {
            char letter = text.charAt(at);
            boolean isName = letter == 'q';
            if (letter >= 'a' && letter <= 'z' && !isName) {
                int first = at;
                while (first > 0 && text.charAt(first - 1) >= 'a' && text.charAt(first - 1) <= 'z') {
                    first--;
                }
                String wrong = text.substring(0, at) + (char) (letter == 'z' ? 'a' : letter + 1) + text.substring(at + 1);
                same("another letter at " + at, error(wrong), first + " 1");
                String shorter = text.substring(0, at) + text.substring(at + 1);
                same("no letter at " + at, error(shorter), first + " 1");
            }
        }
    }

    // ---- the calls

    private static void newObject() {
        says("Creates a switch without ports, rules and events, with an empty input buffer.", () -> {
            DropSwitch x = new DropSwitch();
            StringBuilder counts = new StringBuilder();
            for (int what = 0; what < 6; what++) {
                counts.append(x.count(what));
            }
            same("counts", counts.toString(), "000000");
            same("nothing to shorten", x.truncate(1), false);
            fails("no port 0", BOUNDS, () -> x.fill(0));
            fails("no rule 0", BOUNDS, () -> x.dropsByRule(0));
            fails("no event 0", BOUNDS, () -> x.eventKind(0));
            fails("no packet 0", BOUNDS, () -> x.arrivalOf(0));
            fails("no drop 0", BOUNDS, () -> x.dropField(0, 0));
            same("an empty past", x.repeats(0) + " " + x.checkpoints() + " " + x.portAt(0, 0), "0 0 -1");
            same("an empty table", x.portOf(0) + " " + x.portOf(63) + " " + x.tableSize(), "-1 -1 0");
            same("an empty supposed run", x.supposedDrops() + " " + x.saved() + " " + x.newlyDropped(), "0 0 0");
            same("no formatted text", x.formattedByte(0), -1);
            same("no suppositions", x.clearSuppositions(), 0);
            same("a tick without ports", x.tick() + " " + x.count(2) + " " + x.count(5), "0 1 1");
            same("the empty text is right", x.load() + " " + x.count(2), "0 0");
        });
    }

    private static void append() {
        says("Appends 20 bytes to the input buffer: the four bytes of each parameter in turn, the most significant byte first.",
                () -> {
            DropSwitch x = new DropSwitch();
            // "drop if any;port zz " "7 3;"
            x.append(0x64726f70, 0x20696620, 0x616e793b, 0x706f7274, 0x207a7a20);
            x.append(0x3720333b, 0x20202020, 0x20202020, 0x20202020, 0x20202020);
            same("load()", x.load() + " " + x.count(1), "1 1");
            same("the name", x.formatQueue(0) + formatted(x), "2zz");
            for (int at = 0; at < 20; at++) {
                int[] w = {0x20202020, 0x20202020, 0x20202020, 0x20202020, 0x20202020};
                // A blank with its highest bit set: the sign bit of a word for each fourth byte.
                w[at / 4] |= 0x80 << 24 - at % 4 * 8;
                x.append(w[0], w[1], w[2], w[3], w[4]);
                fails("a byte above 127 at " + at, ARGUMENT, x::load);
                same("its offset", x.errorOffset(), at);
            }
            x.append(MIN, MAX, -1, 0, 1);
            fails("the extreme words", ARGUMENT, x::load);
            same("are only bytes", x.errorOffset(), 0);
        });
        says("Returns the new length of the buffer; `NONE`, and nothing is appended, if the buffer would exceed 600 bytes.", () -> {
            DropSwitch x = new DropSwitch();
            for (int k = 1; k <= 30; k++) {
                same("append " + k, x.append(0x20202020, 0x20202020, 0x20202020, 0x20202020, 0x20202020), 20 * k);
            }
            same("at 600", x.append(-1, -1, -1, -1, -1), -1);
            same("nothing is appended", x.truncate(601), false);
            x.truncate(581);
            same("at 581", x.append(-1, -1, -1, -1, -1), -1);
            same("nothing is appended then, too", x.truncate(582), false);
            same("again", x.append(-1, -1, -1, -1, -1), -1);
            x.truncate(580);
            same("at 580", x.append(0x20202020, 0x20202020, 0x20202020, 0x20202020, 0x2020203b), 600);
            fails("only what fitted is read", ARGUMENT, x::load);
            same("its last byte is the wrong one", x.errorOffset(), 599);
            same("the buffer is free again", x.append(0, 0, 0, 0, 0), 20);
        });
    }

    private static void truncate() {
        says("Shortens the input buffer to its first bytes.", () -> {
            DropSwitch x = new DropSwitch();
            feed(x, "age 1;wait 1;buffer 1;?");
            same("the last byte", x.truncate(22) + " " + x.load(), "true 0");
            feed(x, "age 1;wait 1;buffer 1;");
            x.truncate(13);
            x.truncate(7);
            fails("only the first bytes are left", ARGUMENT, x::load);
            same("one of the second line", x.errorOffset(), 6);
            feed(x, "?");
            x.truncate(0);
            feed(x, "age 1;");
            same("other bytes in their place", x.load(), 0);
        });
        says("Returns true if the length was 0 to the current length; false, and nothing changes, otherwise.", () -> {
            DropSwitch x = new DropSwitch();
            same("0 of 0", x.truncate(0), true);
            same("1 of 0", x.truncate(1), false);
            same("-1 of 0", x.truncate(-1), false);
            feed(x, "age 1;age 2;age 3;  ");
            same("21 of 20", x.truncate(21), false);
            same("-1", x.truncate(-1), false);
            same("the greatest int", x.truncate(MAX), false);
            same("the least int", x.truncate(MIN), false);
            same("20 of 20", x.truncate(20), true);
            same("19 of 20", x.truncate(19), true);
            same("20 of 19", x.truncate(20), false);
            same("what stays is counted", x.append(0x20202020, 0x20202020, 0x20202020, 0x20202020, 0x20202020), 39);
            same("and right", x.load(), 0);
            feed(x, "age 1;?");
            same("0", x.truncate(0), true);
            same("an empty buffer is an empty text", x.load(), 0);
        });
    }

    private static void load() {
        says("Parses the input buffer as a text and replaces all settings by it; there are no events and no suppositions "
                + "afterwards.", () -> {
            DropSwitch x = made("port a 3 2;port b 3 2;police a 1 2;buffer 3;age 0;wait 1;drop if any;drop if any;");
            x.tick();
            x.arrive(0, 1, 2, 1, 0);
            x.suppose(1, 0, 9);
            x.leaveOut(0);
            same("a drop of the supposed run", x.supposedDrops(), 1);
            feed(x, "port c 9 0;port d 9 0;port e 9 0;");
            same("load()", x.load(), 3);
            same("no drop of the supposed run", x.supposedDrops(), 0);
            same("ports, rules, events, packets, drops, the time", "" + x.count(0) + x.count(1) + x.count(2) + x.count(3)
                    + x.count(4) + x.count(5), "300000");
            same("no suppositions", x.clearSuppositions(), 0);
            same("no policer", x.tokens(0), -1);
            same("no entries", x.portOf(1), -1);
            x.arrive(0, 1, 2, 8, 0);
            ticks(x, 2);
            same("no rule, no small capacity, no small buffer, no short wait, no low age",
                    x.count(4) + " " + x.fill(1) + " " + x.fill(2) + " " + x.portOf(1), "0 8 8 0");
            x.load();
            same("an empty text leaves nothing", "" + x.count(0) + x.count(1) + x.count(2) + x.count(5), "0000");
            fails("not even port 0", BOUNDS, () -> x.fill(0));
            laterLoads();
            longLoads();
        });
        says("The buffer is empty afterwards, also on an error.", () -> {
            DropSwitch x = made("age 1;");
            same("nothing is left", x.truncate(1), false);
            feed(x, "age 1;age");
            fails("load()", ARGUMENT, x::load);
            same("nothing is left then, too", x.truncate(1), false);
            same("the next text begins anew", x.append(0x61676520, 0x313b2020, 0x20202020, 0x20202020, 0x20202020), 20);
            same("and is right", x.load(), 0);
        });
        says("The formatted text stays.", () -> {
            DropSwitch x = made("port abc 9 1;");
            x.formatQueue(0);
            x.load();
            same("without ports", formatted(x), "abc");
            feed(x, "port x 9 1;");
            x.load();
            same("with another port", formatted(x), "abc");
            feed(x, "?");
            fails("load()", ARGUMENT, x::load);
            same("on an error", formatted(x), "abc");
        });
        says("Returns the number of ports.", () -> {
            same("none", new DropSwitch().load(), 0);
            DropSwitch x = new DropSwitch();
            feed(x, FOUR_PORTS);
            same("four", x.load(), 4);
            feed(x, "police a 1 1;");
            fails("the ports of the text before are gone", ARGUMENT, x::load);
        });
        says("Throws `IllegalArgumentException` if the text does not match; everything else stays as it is.", () -> {
            DropSwitch x = made("port a 3 2;port b 5 2;police a 1 7;buffer 6;age 1;wait 2;drop if to=9;");
            x.arrive(0, 1, 2, 4, 0);
            x.arrive(0, 1, 9, 4, 0);
            x.suppose(1, 0, 9);
            x.leaveOut(0);
            x.formatDrop(0);
            feed(x, "port c 99 9;port d 99 9;port e 99 9;police c 9 9;buffer 99;age 99;wait 99;drop if any;pass if any?");
            fails("load()", ARGUMENT, x::load);
            same("ports and rules", x.count(0) + " " + x.count(1), "2 1");
            same("events and drops", x.count(2) + " " + drops(x, 0), "2 1 1 -1 2 0");
            same("the queue and the tokens", x.fill(1) + " " + x.tokens(0) + " " + x.portOf(1), "4 3 0");
            same("the suppositions and the text", x.clearSuppositions() + " " + formatted(x), "2 1@1 rule=0");
            x.arrive(0, 1, 2, 2, 0);
            x.arrive(0, 1, 9, 1, 0);
            same("the capacity and the rule", drops(x, 1), "2 2 1 7 -1; 3 3 -1 2 0");
        });
        says("Returns the error offset of the latest call of load; `NONE` if that call succeeded or if there was none.", () -> {
            DropSwitch x = new DropSwitch();
            same("no call", x.errorOffset(), -1);
            feed(x, "?");
            fails("load()", ARGUMENT, x::load);
            same("offset 0", x.errorOffset(), 0);
            feed(x, "age 1?");
            same("not before the next call", x.errorOffset(), 0);
            fails("load()", ARGUMENT, x::load);
            same("the latest call", x.errorOffset(), 5);
            x.load();
            same("that call succeeded", x.errorOffset(), -1);
        });
        says("Returns the kind of error of the latest call of load; 0 if that call succeeded or if there was none.", () -> {
            DropSwitch x = new DropSwitch();
            same("no call", x.errorKind(), 0);
            feed(x, "?");
            fails("load()", ARGUMENT, x::load);
            same("SYNTAX", x.errorKind(), 1);
            feed(x, "age 1000;");
            same("not before the next call", x.errorKind(), 1);
            fails("load()", ARGUMENT, x::load);
            same("the latest call", x.errorKind(), 2);
            x.load();
            same("that call succeeded", x.errorKind(), 0);
        });
    }

    /** Nothing of a text is left when the second one behind it is loaded, either. */
    private static void laterLoads() {
        DropSwitch x = made("port a 9 1;port b 9 1;port c 9 1;police a 0 0;drop if any;drop if any;");
        x.load();
        feed(x, "port a 9 1;port b 9 1;pass if any;pass if to=1;");
        x.load();
        same("rules that pass where others dropped", x.arrive(0, 1, 2, 1, 0), 1);
        feed(x, "drop if at c;");
        fails("a name of an earlier text", ARGUMENT, x::load);
        same("is no name", x.errorOffset() + " " + x.errorKind(), "11 3");
        for (int k = 0; k < 3; k++) {
            feed(x, "port a 9 1;police b 9 1;");
            fails("the second name of an earlier text", ARGUMENT, x::load);
            same("is no name", x.errorOffset() + " " + x.errorKind(), "18 3");
        }
        feed(x, "port b 9 1;");
        same("a name of an earlier text again", x.load(), 1);
    }

    /** Texts as long as they can be, one after the other. */
    private static void longLoads() {
        String end = "any;";
        String text = "port a 9 1;port b 9 1;drop if " + "at b or ".repeat(70) + end;
        DropSwitch x = new DropSwitch();
        for (int k = 0; k < 12; k++) {
            feed(x, text);
            x.load();
            x.arrive(0, 1, 2, 1, 0);
            same("the last part of the text " + k, drops(x, 0), "0 0 -1 2 0");
        }
    }

    private static void count() {
        says("- `what`: 0 the number of ports, 1 of rules, 2 of events, 3 of packets, 4 of drops, 5 the time", () -> {
            DropSwitch x = made(FOUR_PORTS + "pass if any;".repeat(6));
            x.arrive(0, 1, 1, 1, 0);
            x.arrive(0, 1, 1, 1, 0);
            x.arrive(0, 1, 2, 1, 0);
            ticks(x, 5);
            x.link(0, true);
            same("all different", x.count(0) + " " + x.count(1) + " " + x.count(2) + " " + x.count(3) + " " + x.count(4)
                    + " " + x.count(5), "4 6 9 3 2 5");
        });
        says("Throws `NoSuchElementException` if what is not 0 to 5", () -> {
            DropSwitch x = made(FOUR_PORTS);
            fails("-1", ELEMENT, () -> x.count(-1));
            same("0", x.count(0), 4);
            same("5", x.count(5), 0);
            fails("6", ELEMENT, () -> x.count(6));
            fails("the least int", ELEMENT, () -> x.count(MIN));
            fails("the greatest int", ELEMENT, () -> x.count(MAX));
        });
    }

    public static void main(String[] args) {
        wholeText();
        tokens();
        lines();
        errors();
        newObject();
        append();
        truncate();
        load();
        count();
        end("TextBoundariesTest");
    }
}
