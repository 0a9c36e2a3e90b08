import java.io.IOException;
import java.nio.charset.StandardCharsets;
import java.nio.file.Files;
import java.nio.file.Path;
import java.util.NoSuchElementException;
import java.util.Set;
import java.util.TreeSet;

/** What the tests share: switches made of a text, answers put into words, and the count of those that are due. */
abstract class Due {
    static final Class<?> BOUNDS = IndexOutOfBoundsException.class;
    static final Class<?> ARGUMENT = IllegalArgumentException.class;
    static final Class<?> STATE = IllegalStateException.class;
    static final Class<?> ELEMENT = NoSuchElementException.class;
    static final int MIN = Integer.MIN_VALUE;
    static final int MAX = Integer.MAX_VALUE;

    private static final String DOCUMENT_PATH = "../shared/DOC.md";
    /** The document, or an empty text where it is not at hand: then nothing is looked up in it. */
    static final String DOCUMENT = document();
    private static int passed = 0;
    private static int failed = 0;
    private static int sentences = 0;
    private static String subject = "";
    private static final Set<String> subjects = new TreeSet<>();

    interface Call {
        void run();
    }

    // ---- tests

    private static String document() {
        if (Files.isReadable(Path.of(DOCUMENT_PATH))) {
            return file(DOCUMENT_PATH);
        }
        System.out.println(DOCUMENT_PATH + " cannot be read: nothing is looked up in it");
        return "";
    }

    static String file(String path) {
        try {
            return Files.readString(Path.of(path), StandardCharsets.UTF_8);
        } catch (IOException e) {
            throw new IllegalStateException(path + " cannot be read", e);
        }
    }

    /** Begins the tests of a subject. */
    static void about(String what) {
        subject = what;
    }

    /** Tells whether an answer was looked at whose subject begins with these words. */
    static boolean wasLookedAt(String words) {
        return subjects.stream().anyMatch(each -> each.startsWith(words));
    }

    /** Runs the tests of one subject. */
    static void test(String what, Call call) {
        about(what);
        int before = passed + failed;
        try {
            call.run();
        } catch (RuntimeException e) {
            same("the test", e, "over without an exception");
        }
        if (passed + failed == before) {
            same("answers that were looked at", 0, "more");
        }
    }

    /** Runs the test of one sentence of the document, which is told word by word. */
    static void says(String sentence, Call call) {
        sentences++;
        test("\"" + sentence + "\"", call);
        if (!DOCUMENT.isEmpty()) {
            same("the sentence stands in the document", DOCUMENT.contains(sentence), true);
        }
    }

    static void same(String what, Object got, Object want) {
        subjects.add(subject);
        if (got.equals(want)) {
            passed++;
        } else {
            failed++;
            System.out.println(subject + ": " + what + " answered " + got + ", due is " + want);
        }
    }

    static void fails(String what, Class<?> want, Call call) {
        Object got = "nothing thrown";
        try {
            call.run();
        } catch (RuntimeException e) {
            got = e.getClass();
        }
        same(what, got, want);
    }

    static void end(String name) {
        System.out.println(name + ": " + (sentences == 0 ? "" : sentences + " sentences, ")
                + passed + " answers as due, " + failed + " not");
        if (failed != 0) {
            System.exit(1);
        }
    }

    // ---- switches

    static void feed(DropSwitch x, String text) {
        int before = 0;
        for (int at = 0; at < text.length(); at += 20) {
            int[] w = new int[5];
            for (int k = 0; k < 20 && at + k < text.length(); k++) {
                w[k / 4] |= (text.charAt(at + k) & 255) << 24 - k % 4 * 8;
            }
            before = x.append(w[0], w[1], w[2], w[3], w[4]);
        }
        x.truncate(text.isEmpty() ? 0 : before - (20 - text.length() % 20) % 20);
    }

    static DropSwitch made(String text) {
        DropSwitch x = new DropSwitch();
        feed(x, text);
        x.load();
        return x;
    }

    /** Loads a text that does not match and tells "offset kind". */
    static String error(String text) {
        DropSwitch x = new DropSwitch();
        feed(x, text);
        try {
            x.load();
            return "no error";
        } catch (IllegalArgumentException e) {
            return x.errorOffset() + " " + x.errorKind();
        }
    }

    static void ticks(DropSwitch x, int number) {
        for (int k = 0; k < number; k++) {
            x.tick();
        }
    }

    /** The same packet several times. */
    static void packets(DropSwitch x, int number, int port, int source, int target, int size, int rank) {
        for (int k = 0; k < number; k++) {
            x.arrive(port, source, target, size, rank);
        }
    }

    // ---- answers in words

    static String drop(DropSwitch x, int drop) {
        StringBuilder text = new StringBuilder();
        for (int what = 0; what < 5; what++) {
            text.append(what == 0 ? "" : " ").append(x.dropField(drop, what));
        }
        return text.toString();
    }

    /** The drops from a number on. */
    static String drops(DropSwitch x, int first) {
        StringBuilder text = new StringBuilder();
        for (int drop = first; drop < x.count(4); drop++) {
            text.append(drop == first ? "" : "; ").append(drop(x, drop));
        }
        return text.toString();
    }

    static String formatted(DropSwitch x) {
        return formatted(x, 0, MAX);
    }

    /** The formatted text from an offset on, up to another one or its end. */
    static String formatted(DropSwitch x, int first, int end) {
        StringBuilder text = new StringBuilder();
        for (int k = first; k < end; k++) {
            int sign = x.formattedByte(k);
            if (sign == DropSwitch.NONE) {
                break;
            }
            text.append((char) sign);
        }
        return text.toString();
    }

    static String queue(DropSwitch x, int port) {
        StringBuilder text = new StringBuilder();
        for (int k = 0; k < x.queueLength(port); k++) {
            text.append(k == 0 ? "" : " ").append(x.queued(port, k));
        }
        return text.toString();
    }

    static String evidence(DropSwitch x, int drop) {
        StringBuilder text = new StringBuilder();
        for (int k = 0; k < x.evidenceCount(drop); k++) {
            text.append(k == 0 ? "" : " ").append(x.evidence(drop, k));
        }
        return text.toString();
    }

    /** Tells whether a rule "drop if CONDITION" drops a packet from a (1 to 2, size 3, class 1). */
    static boolean drops(String condition) {
        DropSwitch x = made("port a 9 1;port b 9 1;drop if " + condition + ";");
        x.arrive(0, 1, 2, 3, 1);
        return x.dropsBy(DropSwitch.RULE) == 1;
    }
}
