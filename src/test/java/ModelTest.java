import java.lang.reflect.InvocationTargetException;
import java.lang.reflect.Method;
import java.util.ArrayList;
import java.util.Arrays;
import java.util.Comparator;
import java.util.List;
import java.util.Random;

/** Runs the same calls on DropSwitch and on Model, and compares every answer. */
public final class ModelTest {
    private static final int RUNS = 700;
    private static final int CALLS = 512;
    private static final List<Method> CALLABLE = callable();
    private static final List<Method> SWITCH_METHODS = new ArrayList<>();
    private static final List<Method> MODEL_METHODS = new ArrayList<>();

    private final Random random;
    private final DropSwitch real = new DropSwitch();
    private final Model model = new Model();
    private final List<String> trace = new ArrayList<>();
    private int calls = 0;
    private boolean isWrong = false;

    private ModelTest(long seed) {
        random = new Random(seed);
    }

    private static List<Method> callable() {
        List<Method> methods = new ArrayList<>();
        for (Method method : DropSwitch.class.getDeclaredMethods()) {
            if (java.lang.reflect.Modifier.isPublic(method.getModifiers())) {
                methods.add(method);
            }
        }
        methods.sort(Comparator.comparing(Method::getName));
        return methods;
    }

    private static Object answer(Object on, Method method, Object[] arguments) throws IllegalAccessException {
        try {
            return method.invoke(on, arguments);
        } catch (InvocationTargetException e) {
            return "throws." + e.getCause().getClass().getSimpleName();
        }
    }

    private int index(String name) {
        for (int k = 0; k < SWITCH_METHODS.size(); k++) {
            if (SWITCH_METHODS.get(k).getName().equals(name)) {
                return k;
            }
        }
        throw new IllegalArgumentException(name);
    }

    private Object call(String name, Object... arguments) {
        int k = index(name);
        if (calls >= CALLS || isWrong) {
            return null;
        }
        calls++;
        try {
            Object got = answer(real, SWITCH_METHODS.get(k), arguments);
            Object want = answer(model, MODEL_METHODS.get(k), arguments);
            trace.add(name + Arrays.toString(arguments) + " -> " + got);
            if (!got.equals(want)) {
                isWrong = true;
                trace.add("    due is " + want);
            }
            return got;
        } catch (IllegalAccessException e) {
            throw new IllegalStateException(e);
        }
    }

    private int below(int bound) {
        return random.nextInt(bound);
    }

    private boolean oneIn(int n) {
        return below(n) == 0;
    }

    private String pick(String... texts) {
        return texts[below(texts.length)];
    }

    // ---- texts

    private void feed(String text) {
        String rest = text.length() > 600 ? text.substring(0, 600) : text;
        for (int at = 0; at < rest.length(); at += 20) {
            int[] w = new int[5];
            for (int k = 0; k < 20; k++) {
                int sign = at + k < rest.length() ? rest.charAt(at + k) : 'x';
                w[k / 4] |= (sign & 255) << 24 - k % 4 * 8;
            }
            call("append", w[0], w[1], w[2], w[3], w[4]);
        }
        call("truncate", rest.length());
    }

    private String blank() {
        return oneIn(6) ? pick("\n", "\t", "  ", " \n ") : " ";
    }

    private String condition(int depth, String[] names) {
        switch (below(depth > 0 ? 9 : 5)) {
            case 0:
                return "any";
            case 1:
                return "at " + names[below(names.length)];
            case 2:
                return pick("from", "to") + pick("<", "=", ">") + below(8);
            case 3:
                return "size " + pick("<", "=", ">") + below(10);
            case 4:
                return "class" + pick("<", "=", ">") + below(4);
            case 5:
                return "not " + condition(depth - 1, names);
            case 6:
                return "(" + condition(depth - 1, names) + pick(" or ", " and ")
                        + condition(depth - 1, names) + ")";
            default:
                return condition(depth - 1, names) + pick(" or ", " and ") + condition(depth - 1, names);
        }
    }

    private String rightText() {
        String[] names = {pick("a", "port", "at"), "b", pick("abcdef", "zzzzzz"), "any"};
        int ports = oneIn(8) ? 1 : 2 + below(3);
        StringBuilder text = new StringBuilder();
        int bound = pick("x", "y").equals("x") ? 12 : 40;
        for (int port = 0; port < ports; port++) {
            text.append("port").append(blank()).append(names[port]).append(blank())
                    .append(1 + below(bound)).append(blank()).append(below(4)).append(";");
        }
        String[] told = Arrays.copyOf(names, ports);
        if (oneIn(2)) {
            text.append("police ").append(told[below(ports)]).append(" ").append(below(9)).append(" ")
                    .append(below(20)).append(";");
        }
        if (oneIn(2)) {
            text.append("buffer ").append(5 + below(40)).append(";");
        }
        if (oneIn(2)) {
            text.append("age").append(blank()).append(below(6)).append(" ;");
        }
        if (oneIn(2)) {
            text.append("wait").append(blank()).append(1 + below(5)).append(blank()).append(";");
        }
        int rules = oneIn(3) ? below(9) : below(4);
        for (int rule = 0; rule < rules; rule++) {
            text.append(oneIn(3) ? "drop" : "pass").append(" if ").append(condition(3, told)).append(";");
        }
        return text.toString();
    }

    private String brokenText() {
        StringBuilder text = new StringBuilder(rightText());
        String[] pieces = {
            "port", "police", "drop if ", "not ", "(", ")", ";", "any", "at ", "1000", "0", "99", "100", "400",
            "401", "or", "and", "x", "abcdefg", "<", "=", "from", "#", "\u00ff", "\r", "A", " ", "not not not ",
            "port q 5 5;", "pass if any;"
        };
        int edits = 1 + below(3);
        for (int k = 0; k < edits; k++) {
            int at = below(text.length() + 1);
            switch (below(4)) {
                case 0:
                    text.setLength(at);
                    break;
                case 1:
                    text.delete(at, Math.min(text.length(), at + 1 + below(4)));
                    break;
                default:
                    text.insert(at, pieces[below(pieces.length)]);
                    break;
            }
        }
        return text.toString();
    }

    private void loadText(String text) {
        feed(text);
        call("load");
        call("errorOffset");
        call("errorKind");
    }

    // ---- calls

    private int size(int what) {
        return model.count(what);
    }

    /** A number from 0 to size - 1 as a rule, now and then one that is out of range. */
    private int around(int size) {
        if (size == 0 || oneIn(20)) {
            return oneIn(8) ? pick("x", "y").equals("x") ? Integer.MIN_VALUE : Integer.MAX_VALUE : below(2) * (size + 1) - 1;
        }
        return below(size);
    }

    private void makeEvent() {
        int ports = size(0);
        int what = below(20);
        if (what < 14) {
            call("arrive", around(ports), oneIn(60) ? 64 : below(6), oneIn(60) ? -1 : below(6),
                    oneIn(60) ? 10 : 1 + below(oneIn(3) ? 9 : 4), oneIn(60) ? 4 : below(4));
        } else if (what < 19) {
            call("tick");
        } else {
            call("link", around(ports), !oneIn(3));
        }
    }

    private void suppose() {
        int what = oneIn(25) ? 5 * below(2) : below(5);
        int[] most = {99, 400, 99, 999, 5, 5};
        int value = oneIn(20) ? most[what] + 1 : oneIn(20) ? 0 : 1 + below(oneIn(2) ? 20 : most[what]);
        int index = what == 0 ? around(size(0)) : what == 4 ? around(size(1)) : below(9) - 4;
        call("suppose", oneIn(40) ? -1 : what, index, value);
    }

    private void ask() {
        Method method = CALLABLE.get(below(CALLABLE.size()));
        int port = around(size(0));
        int packet = around(size(3));
        int drop = around(size(4));
        int event = around(size(2));
        int moment = around(size(2) + 1);
        int address = oneIn(20) ? 64 : below(7);
        switch (method.getName()) {
            case "append", "truncate", "load", "arrive", "tick", "link", "suppose" -> { }
            case "rewind" -> {
                if (oneIn(6)) {
                    call("rewind", oneIn(4) ? size(2) + 1 : Math.max(0, size(2) - below(20)));
                }
            }
            case "leaveOut", "eventKind", "packetOf" -> call(method.getName(), event);
            case "errorOffset", "errorKind", "tableSize", "checkpoints", "supposedDrops", "saved",
                    "newlyDropped" -> call(method.getName());
            case "clearSuppositions" -> {
                if (oneIn(4)) {
                    call("clearSuppositions");
                }
            }
            case "count" -> call("count", below(8) - 1);
            case "arrivalOf", "firstDrop", "pushedBy" -> call(method.getName(), packet);
            case "fill", "queueLength", "isUp", "tokens", "delivered", "peak", "supposedDelivered",
                    "formatQueue" -> call(method.getName(), port);
            case "queued" -> call("queued", port, below(6) - 1);
            case "portOf" -> call("portOf", address);
            case "fate", "supposedFate" -> call(method.getName(), packet, port);
            case "dropField" -> call("dropField", drop, below(7) - 1);
            case "dropsBy", "supposedDropsBy" -> call(method.getName(), below(12));
            case "dropsByRule" -> call("dropsByRule", around(size(1)));
            case "repeats" -> call("repeats", moment);
            case "fillAt" -> call("fillAt", moment, port);
            case "portAt" -> call("portAt", moment, address);
            case "evidenceCount", "leastCapacity", "savingRules", "formatDrop" -> call(method.getName(), drop);
            case "evidence" -> call("evidence", drop, below(5) - 1);
            case "formattedByte" -> call("formattedByte", below(20) - 1);
            default -> throw new IllegalStateException(method.getName());
        }
    }

    private void readFormatted(Object length) {
        if (length instanceof Integer n && n > 0) {
            for (int k = -1; k <= n; k++) {
                call("formattedByte", k);
            }
        }
    }

    /** Settings, then many events with questions between them. */
    private boolean play() {
        loadText(oneIn(4) ? brokenText() : rightText());
        int share = 2 + below(4);
        while (calls < CALLS && !isWrong) {
            if (oneIn(120)) {
                loadText(oneIn(2) ? brokenText() : rightText());
            } else if (oneIn(60) && size(4) > 0) {
                readFormatted(call("formatDrop", below(size(4))));
            } else if (oneIn(60) && size(0) > 0) {
                readFormatted(call("formatQueue", below(size(0))));
            } else if (oneIn(share)) {
                makeEvent();
            } else if (oneIn(12)) {
                suppose();
            } else {
                ask();
            }
        }
        return report();
    }

    /** Broken texts alone. */
    private boolean playTexts() {
        while (calls < CALLS && !isWrong) {
            loadText(brokenText());
            call("count", 0);
            call("count", 1);
        }
        return report();
    }

    private boolean report() {
        if (isWrong) {
            trace.forEach(System.out::println);
        }
        return !isWrong;
    }

    public static void main(String[] args) throws NoSuchMethodException {
        for (Method method : CALLABLE) {
            SWITCH_METHODS.add(method);
            Method twin = Model.class.getDeclaredMethod(method.getName(), method.getParameterTypes());
            MODEL_METHODS.add(twin);
        }
        int runs = args.length > 0 ? Integer.parseInt(args[0]) : RUNS;
        int first = args.length > 1 ? Integer.parseInt(args[1]) : 1;
        for (int seed = first; seed < first + runs; seed++) {
            ModelTest test = new ModelTest(seed);
            if (!(seed % 5 == 0 ? test.playTexts() : test.play())) {
                System.out.println("ModelTest: the run with the seed " + seed + " went wrong");
                System.exit(1);
            }
        }
        System.out.println("ModelTest: " + runs + " runs answered as the model does");
    }
}
