import java.io.IOException;
import java.lang.reflect.Field;
import java.lang.reflect.Method;
import java.lang.reflect.Modifier;
import java.nio.file.Files;
import java.nio.file.Path;
import java.util.ArrayList;
import java.util.Arrays;
import java.util.List;
import java.util.Map;
import java.util.Set;
import java.util.TreeMap;
import java.util.TreeSet;
import java.util.regex.Matcher;
import java.util.regex.Pattern;

/**
 * Reads ../shared/DOC.md and holds the class against its words: the face, the constants, the five examples, and of each
 * promise its signature, the ranges of its arguments, its error codes in their order, and whether it is undoable.
 */
public final class DocTests {
    private static final String DOCUMENT = "../shared/DOC.md";
    private static final int PROMISES = 28;
    private static final int[] CALLS_IN_EXAMPLES = {12, 7, 7, 15, 4};
    private static final Set<String> OF_REGULATOR = new TreeSet<>(Arrays.asList(
        "setTap", "tap", "timer", "isLocked", "steps", "planSteps", "planTap"));
    private static final Set<String> OF_BANK = new TreeSet<>(Arrays.asList("switchBank", "isOn"));

    private static int checks = 0;
    private static int wrong = 0;

    public static void main(String[] args) throws Exception {
        String document = Files.readString(Path.of(DOCUMENT));
        face(document);
        constants(document);
        examples(document);
        List<Promise> promises = promises(document);
        due("the number of promises", promises.size(), PROMISES);
        for (Promise promise : promises) {
            promise(promise);
        }
        System.out.println("DocTests: " + checks + " checks, " + wrong + " wrong");
        if (wrong != 0) {
            System.exit(1);
        }
    }

    private static void due(String what, Object got, Object want) {
        checks++;
        if (!got.equals(want)) {
            wrong++;
            System.out.println(what + " is " + got + ", due is " + want);
        }
    }

    private static String between(String text, String start, String end) {
        int from = text.indexOf(start);
        int to = from < 0 ? -1 : text.indexOf(end, from + start.length());
        if (to < 0) {
            throw new IllegalStateException("the document has no '" + start + "' before '" + end + "'");
        }
        return text.substring(from + start.length(), to);
    }

    private static List<Matcher> all(String pattern, String text) {
        List<Matcher> found = new ArrayList<>();
        Matcher m = Pattern.compile(pattern).matcher(text);
        while (m.find()) {
            Matcher one = Pattern.compile(pattern).matcher(text);
            one.find(m.start());
            found.add(one);
        }
        return found;
    }

    private static Method method(String name) {
        for (Method m : FeederControl.class.getMethods()) {
            if (m.getName().equals(name) && m.getDeclaringClass() == FeederControl.class) {
                return m;
            }
        }
        throw new IllegalStateException("the class has no method " + name);
    }

    private static long call(FeederControl x, String name, int... args) {
        Object[] boxed = new Object[args.length];
        for (int i = 0; i < args.length; i++) {
            boxed[i] = args[i];
        }
        try {
            return ((Number) method(name).invoke(x, boxed)).longValue();
        } catch (ReflectiveOperationException e) {
            throw new IllegalStateException(name + Arrays.toString(args), e);
        }
    }

    // ---- the face, the constants, the examples

    private static void face(String document) {
        Set<String> due = new TreeSet<>();
        for (String line : between(document, "public final class FeederControl {", "\n}").split("\n")) {
            due.add(line.trim().replaceAll("(int|long) \\w+(?=[,)])", "$1").replace(";", ""));
        }
        due.remove("");
        Set<String> got = new TreeSet<>();
        for (Field f : FeederControl.class.getFields()) {
            got.add(Modifier.toString(f.getModifiers()) + " " + f.getType() + " " + f.getName() + " = " + constant(f));
        }
        got.add("public FeederControl()");
        for (Method m : FeederControl.class.getDeclaredMethods()) {
            if (Modifier.isPublic(m.getModifiers())) {
                String types = Arrays.toString(m.getParameterTypes()).replaceAll("[\\[\\]]", "");
                got.add("public " + m.getReturnType() + " " + m.getName() + "(" + types + ")");
            }
        }
        due("the public face", got, due);
    }

    private static int constant(Field f) {
        try {
            return f.getInt(null);
        } catch (IllegalAccessException e) {
            throw new IllegalStateException(f.toString(), e);
        }
    }

    private static int constant(String name) {
        try {
            return constant(FeederControl.class.getField(name));
        } catch (NoSuchFieldException e) {
            throw new IllegalStateException(name, e);
        }
    }

    private static void constants(String document) {
        List<Matcher> listed = all("- `([A-Z_]+) = (-\\d+)`", document);
        due("the number of constants", listed.size(), 5);
        for (Matcher m : listed) {
            due(m.group(1), constant(m.group(1)), Integer.parseInt(m.group(2)));
        }
    }

    private static void examples(String document) {
        String text = between(document, "the results are given behind the calls.\n", "The constants:");
        String[] examples = text.replaceFirst("^1\\. ", "").split("\n\\d\\. ");
        due("the number of examples", examples.length, CALLS_IN_EXAMPLES.length);
        for (int i = 0; i < examples.length; i++) {
            example(i + 1, examples[i].replaceAll("\\s+", " ").trim());
        }
    }

    private static void example(int number, String text) {
        FeederControl x = new FeederControl();
        String calls = text.substring(text.indexOf(": ") + 2);
        String one = "(\\w+)\\(([-0-9, ]*)\\) = (-?\\d+)";
        due("example " + number + " has nothing but calls", calls.matches("(" + one + "[;.] ?)+"), true);
        List<Matcher> found = all(one, calls);
        due("the number of calls of example " + number, found.size(), CALLS_IN_EXAMPLES[number - 1]);
        for (Matcher m : found) {
            due("example " + number + ": " + m.group(), call(x, m.group(1), numbers(m.group(2))),
                Long.parseLong(m.group(3)));
        }
    }

    private static int[] numbers(String list) {
        return list.isBlank() ? new int[0] : Arrays.stream(list.split(", ")).mapToInt(Integer::parseInt).toArray();
    }

    // ---- the promises

    /** What the document says of one method. */
    private static final class Promise {
        String name;
        String signature;
        boolean undoable;
        final List<String> arguments = new ArrayList<>();
        final List<int[]> ranges = new ArrayList<>();
        final List<String> codes = new ArrayList<>();
    }

    private static List<Promise> promises(String document) {
        List<Promise> promises = new ArrayList<>();
        String[] sections = document.split("\n## ");
        for (String section : sections) {
            if (section.startsWith("Promise ")) {
                due(section.substring(0, section.indexOf('\n')) + " follows",
                    section.startsWith("Promise " + (promises.size() + 1) + ": "), true);
                promises.add(read(section));
            }
        }
        return promises;
    }

    private static Promise read(String section) {
        Promise promise = new Promise();
        promise.signature = between(section, "\n`", "`\n");
        promise.name = promise.signature.replaceAll("^(int |long )?(\\w+)\\(.*$", "$2");
        promise.undoable = section.contains(" Undoable");
        for (Matcher m : all("\n- `(\\w+)`: ([^\n]*)", section)) {
            promise.arguments.add(m.group(1));
            promise.ranges.add(range(m.group(2)));
        }
        int returns = section.lastIndexOf("\nReturns ");
        if (returns >= 0) {
            for (Matcher m : all("(?<=; )[A-Z_]{4,}(?= if )", section.substring(returns))) {
                promise.codes.add(m.group());
            }
        }
        return promise;
    }

    /** The range as it is in an object with one node besides node 0; of a bank's a and b the range in mode 1. */
    private static int[] range(String words) {
        Matcher m = Pattern.compile("(-?\\d+) to (-?\\d+|the highest node)").matcher(words);
        if (m.find()) {
            int high = m.group(2).equals("the highest node") ? 1 : Integer.parseInt(m.group(2));
            return new int[] {Integer.parseInt(m.group(1)), high};
        }
        if (words.equals("0 or 1") || words.equals("1 for on, 0 for off")) {
            return new int[] {0, 1};
        }
        throw new IllegalStateException("no range in '" + words + "'");
    }

    private static void promise(Promise promise) {
        if (promise.name.equals("FeederControl")) {
            return;
        }
        Method m = method(promise.name);
        StringBuilder types = new StringBuilder();
        for (String argument : promise.arguments) {
            types.append(types.length() == 0 ? "" : ", ").append("int ").append(argument);
        }
        due("the arguments of " + promise.signature, m.getReturnType() + " " + promise.name + "(" + types + ")",
            promise.signature);
        due("the number of arguments of " + promise.name, m.getParameterCount(), promise.arguments.size());
        if (!promise.name.equals("undo")) {
            accepted(promise, usual(promise));
        }
        for (int i = 0; i < promise.arguments.size(); i++) {
            int[] range = promise.ranges.get(i);
            accepted(promise, with(promise, i, range[0]));
            accepted(promise, with(promise, i, range[1]));
            for (int value : new int[] {range[0] - 1, range[1] + 1, Integer.MIN_VALUE, Integer.MAX_VALUE}) {
                refused(promise, prepared(promise), prepared(promise), with(promise, i, value), "OUT_OF_RANGE");
            }
        }
        codes(promise);
    }

    /** The lowest of each range, but for a bank mode 1, in which hours are checked, and b above a, as mode 2 asks. */
    private static int[] usual(Promise promise) {
        int[] values = new int[promise.arguments.size()];
        for (int i = 0; i < values.length; i++) {
            String argument = promise.arguments.get(i);
            boolean high = promise.name.equals("addBank") && argument.equals("b");
            values[i] = promise.ranges.get(i)[high ? 1 : 0];
            if (promise.name.equals("addBank") && argument.equals("mode")) {
                values[i] = 1;
            }
        }
        return values;
    }

    private static int[] with(Promise promise, int i, int value) {
        int[] values = usual(promise);
        values[i] = value;
        return values;
    }

    /** An object in which the call is accepted, with two saved states at most, so that one more can be seen. */
    private static FeederControl prepared(Promise promise) {
        FeederControl x = new FeederControl();
        x.addNode(0, 0, 0, 0);
        if (OF_REGULATOR.contains(promise.name)) {
            x.addRegulator(1, 10000, 100, 0, 0);
        }
        if (OF_BANK.contains(promise.name)) {
            x.addBank(1, 100, 0, 0, 0, 0);
        }
        return x;
    }

    private static int saved(FeederControl x) {
        int count = 0;
        while (x.undo() >= 0 && count < 9) {
            count++;
        }
        return count;
    }

    private static void accepted(Promise promise, int[] values) {
        String what = promise.name + Arrays.toString(values);
        FeederControl x = prepared(promise);
        long before = x.digest();
        long answer = call(x, promise.name, values);
        due(what + " is accepted", answer >= 0 || promise.name.equals("digest"), true);
        for (int code = -6; code <= -2; code++) {
            due("after " + what + " the counter of " + code, x.errorCount(code), 0);
        }
        if (promise.undoable) {
            x.undo();
            due("the digest after " + what + " and undo", x.digest(), before);
            call(x, promise.name, values);
        }
        due("states saved after " + what, saved(x), saved(prepared(promise)) + (promise.undoable ? 1 : 0));
    }

    /** A twin takes the same code's counter up by one in a call that the document says to do nothing else. */
    private static void refused(Promise promise, FeederControl x, FeederControl twin, int[] values, String code) {
        String what = promise.name + Arrays.toString(values);
        due(what, call(x, promise.name, values), (long) constant(code));
        for (int other = -6; other <= -2; other++) {
            due("after " + what + " the counter of " + other, x.errorCount(other), other == constant(code) ? 1 : 0);
        }
        if (code.equals("OUT_OF_RANGE")) {
            due("errorCount(0)", twin.errorCount(0), FeederControl.OUT_OF_RANGE);
            due("the digest after " + what, x.digest(), twin.digest());
        }
        due("states saved after " + what, saved(x), saved(twin));
    }

    // ---- the codes in their order

    private static Map<String, List<String>> otherCodes() {
        Map<String, List<String>> codes = new TreeMap<>();
        codes.put("addNode", List.of("FULL"));
        codes.put("append", List.of("FULL"));
        codes.put("addRegulator", List.of("EXISTS"));
        codes.put("addBank", List.of("EXISTS"));
        codes.put("undo", List.of("NOTHING_SAVED"));
        for (String name : OF_REGULATOR) {
            codes.put(name, List.of("MISSING"));
        }
        for (String name : OF_BANK) {
            codes.put(name, List.of("MISSING"));
        }
        return codes;
    }

    private static void codes(Promise promise) {
        List<String> due = new ArrayList<>(promise.arguments.isEmpty() || promise.name.equals("undo")
            ? List.of() : List.of("OUT_OF_RANGE"));
        due.addAll(otherCodes().getOrDefault(promise.name, List.of()));
        due("the codes of " + promise.name, promise.codes, due);
        String last = promise.codes.isEmpty() ? "OUT_OF_RANGE" : promise.codes.get(promise.codes.size() - 1);
        if (last.equals("OUT_OF_RANGE")) {
            return;
        }
        refused(promise, without(promise), without(promise), usual(promise), last);
        for (int i = 0; i < promise.arguments.size(); i++) {
            int[] range = promise.ranges.get(i);
            refused(promise, without(promise), without(promise), with(promise, i, range[0] - 1), "OUT_OF_RANGE");
            refused(promise, without(promise), without(promise), with(promise, i, range[1] + 1), "OUT_OF_RANGE");
        }
    }

    /** An object in which the call, with arguments in their ranges, is answered by the last of its codes. */
    private static FeederControl without(Promise promise) {
        FeederControl x = new FeederControl();
        int nodes = promise.name.equals("undo") ? 0 : promise.name.equals("addNode") ? 8 : 1;
        for (int i = 0; i < nodes; i++) {
            x.addNode(0, 0, 0, 0);
        }
        if (promise.name.equals("append")) {
            for (int i = 0; i < 120; i++) {
                x.append(' ');
            }
        }
        if (promise.name.equals("addRegulator")) {
            x.addRegulator(1, 10000, 100, 0, 0);
        }
        if (promise.name.equals("addBank")) {
            x.addBank(1, 100, 0, 0, 0, 0);
        }
        return x;
    }
}
