/** Uses a switch from its text to the question what would have saved a packet; README.md shows it. */
public final class Example {
    private static final String TEXT = "port a 20 2; port b 9 1; port c 9 1;\n"
            + "police a 3 12; buffer 30; age 50; wait 5;\n"
            + "drop if at c and (size > 6 or class = 0);\n";

    /** Puts a text into the empty input buffer, which takes 20 bytes a call. */
    private static void feed(DropSwitch x, String text) {
        for (int at = 0; at < text.length(); at += 20) {
            int[] w = new int[5];
            for (int k = 0; k < 20 && at + k < text.length(); k++) {
                w[k / 4] |= text.charAt(at + k) << 24 - k % 4 * 8;
            }
            x.append(w[0], w[1], w[2], w[3], w[4]);
        }
        x.truncate(text.length());
    }

    private static String formatted(DropSwitch x) {
        StringBuilder text = new StringBuilder();
        for (int k = 0; x.formattedByte(k) != DropSwitch.NONE; k++) {
            text.append((char) x.formattedByte(k));
        }
        return text.toString();
    }

    public static void main(String[] args) {
        DropSwitch x = new DropSwitch();
        feed(x, TEXT);
        System.out.println("ports: " + x.load());

        // Events. Nobody has told yet where address 2 is, so that copies go to all other ports.
        System.out.println("copies of packet 0: " + x.arrive(0, 1, 2, 4, 1));
        System.out.println("copies of packet 1: " + x.arrive(0, 1, 2, 5, 0));
        System.out.println("copies of packet 2: " + x.arrive(2, 3, 1, 7, 2));
        System.out.println("copies of packet 3: " + x.arrive(1, 2, 3, 3, 3));
        System.out.println("delivered in the tick: " + x.tick());
        x.formatQueue(2);
        System.out.println("queue: " + formatted(x));

        // What was dropped, and why.
        for (int drop = 0; drop < x.count(4); drop++) {
            x.formatDrop(drop);
            System.out.print("drop " + drop + ": " + formatted(x) + "; evidence:");
            for (int k = 0; k < x.evidenceCount(drop); k++) {
                System.out.print(" " + x.evidence(drop, k));
            }
            System.out.println("; least capacity: " + x.leastCapacity(drop)
                    + "; saving rules, as bits: " + Integer.toBinaryString(x.savingRules(drop)));
        }

        // What would have been if port c had a capacity of 12 and event 0 had not happened.
        x.suppose(0, 2, 12);
        x.leaveOut(0);
        System.out.println("supposed drops: " + x.supposedDrops() + ", saved " + x.saved()
                + ", newly dropped " + x.newlyDropped());

        // A text that does not match.
        feed(x, "port a 100 1;");
        try {
            x.load();
        } catch (IllegalArgumentException e) {
            System.out.println("error of kind " + x.errorKind() + " at byte " + x.errorOffset());
        }
    }
}
