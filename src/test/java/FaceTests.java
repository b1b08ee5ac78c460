import java.io.IOException;
import java.lang.reflect.Constructor;
import java.lang.reflect.Field;
import java.lang.reflect.Method;
import java.lang.reflect.Modifier;
import java.nio.file.Files;
import java.nio.file.Path;
import java.util.Arrays;
import java.util.Set;
import java.util.TreeSet;
import java.util.regex.Matcher;
import java.util.regex.Pattern;

/** The public face, and those rules of LANGUAGE.md that can be seen from the class and its source text. */
public final class FaceTests {
    private static final String SOURCE = "src/main/java/FeederControl.java";
    private static final Set<String> FACE = new TreeSet<>(Arrays.asList(
        "int setSource(int)", "int addNode(int,int,int,int)", "int setLoad(int,int,int)", "int setFactor(int,int)",
        "int append(int)", "int clearText()", "int parseProfile()", "int addRegulator(int,int,int,int,int)",
        "int setTap(int,int)", "int addBank(int,int,int,int,int,int)", "int switchBank(int,int)", "int run(int)",
        "int minute()", "int voltage(int)", "int activeFlow(int)", "int reactiveFlow(int)", "int tap(int)",
        "int timer(int)", "int isLocked(int)", "int steps(int)", "int isOn(int)", "int violations()",
        "int planSteps(int)", "int planTap(int,int)", "int undo()", "int errorCount(int)", "long digest()"));
    private static final Set<String> CONSTANTS = new TreeSet<>(Arrays.asList(
        "OUT_OF_RANGE", "EXISTS", "MISSING", "FULL", "NOTHING_SAVED"));

    private static int wrong = 0;

    public static void main(String[] args) throws IOException {
        face();
        nestedClasses();
        rules(FeederControl.class);
        for (Class<?> c : FeederControl.class.getDeclaredClasses()) {
            rules(c);
        }
        source(Files.readString(Path.of(SOURCE)));
        System.out.println("FaceTests: " + wrong + " wrong");
        if (wrong != 0) {
            System.exit(1);
        }
    }

    private static void due(String what, Object got, Object want) {
        if (!got.equals(want)) {
            wrong++;
            System.out.println(what + " is " + got + ", due is " + want);
        }
    }

    private static String signature(Method m) {
        StringBuilder s = new StringBuilder(m.getReturnType() + " " + m.getName() + "(");
        for (Class<?> p : m.getParameterTypes()) {
            s.append(s.charAt(s.length() - 1) == '(' ? "" : ",").append(p);
        }
        return s.append(')').toString();
    }

    private static void face() {
        Class<?> c = FeederControl.class;
        due("the class's modifiers", Modifier.toString(c.getModifiers()), "public final");
        Set<String> methods = new TreeSet<>();
        Set<String> publicNames = new TreeSet<>();
        for (Method m : c.getDeclaredMethods()) {
            if (Modifier.isPublic(m.getModifiers())) {
                methods.add(signature(m));
                publicNames.add(m.getName());
                due(m + " static", Modifier.isStatic(m.getModifiers()), false);
            }
        }
        due("the public methods", methods, FACE);
        for (Method m : c.getDeclaredMethods()) {
            if (!Modifier.isPublic(m.getModifiers())) {
                due(m + " private", Modifier.isPrivate(m.getModifiers()), true);
                due(m + " bears a public name", publicNames.contains(m.getName()), false);
            }
        }
        Constructor<?>[] constructors = c.getDeclaredConstructors();
        due("the constructors", constructors.length, 1);
        due("the constructor", constructors[0].toString(), "public FeederControl()");
        Set<String> constants = new TreeSet<>();
        for (Field f : c.getDeclaredFields()) {
            if (!Modifier.isPrivate(f.getModifiers())) {
                constants.add(f.getName());
                due(f.getName(), Modifier.toString(f.getModifiers()) + " " + f.getType(), "public static final int");
            }
        }
        due("the public constants", constants, CONSTANTS);
    }

    private static void nestedClasses() {
        Class<?>[] classes = FeederControl.class.getDeclaredClasses();
        due("no more than some twelve classes", classes.length < 12, true);
        for (Class<?> c : classes) {
            due(c + " static", Modifier.isStatic(c.getModifiers()), true);
            due(c + " hidden", Modifier.isPublic(c.getModifiers()) || Modifier.isProtected(c.getModifiers()), false);
            due(c + " has no class inside", c.getDeclaredClasses().length, 0);
        }
    }

    /** Rules 3, 5 and 11: the types of fields, static fields, the numbers of parameters and fields. */
    private static void rules(Class<?> c) {
        int fields = 0;
        for (Field f : c.getDeclaredFields()) {
            if (Modifier.isStatic(f.getModifiers())) {
                due(f + " final", Modifier.isFinal(f.getModifiers()), true);
                due(f + " is a number", f.getType() == int.class || f.getType() == long.class, true);
            } else {
                fields++;
                due(f + " has a type allowed", isAllowed(f.getType()), true);
            }
        }
        due(c + " has some twenty fields at most", fields <= 20, true);
        for (Method m : c.getDeclaredMethods()) {
            due(m + " has seven parameters at most", m.getParameterCount() <= 7, true);
            due(m + " needs no other method of the compiler's", m.isSynthetic(), false);
        }
    }

    private static boolean isAllowed(Class<?> type) {
        Class<?> part = type.isArray() ? type.getComponentType() : type;
        if (part.isArray()) {
            return part.getComponentType().isPrimitive();
        }
        return part.isPrimitive() || part.getName().startsWith("FeederControl$");
    }

    private static String withoutComments(String text) {
        return text.replaceAll("(?s)/\\*.*?\\*/", "").replaceAll("//[^\n]*", "");
    }

    /** Rule 4: no name of the library but those that the class needs and the rule lists. */
    private static void library(String code) {
        Set<String> used = new TreeSet<>();
        Matcher member = Pattern.compile("\\b([A-Z]\\w*[a-z]\\w*)\\s*\\.\\s*(\\w+)").matcher(code);
        while (member.find()) {
            used.add(member.group(1) + "." + member.group(2));
        }
        due("the library's members in use", used, new TreeSet<>(Arrays.asList(
            "Math.abs", "Math.floorMod", "Math.max", "Math.min", "System.arraycopy")));
        Set<String> names = new TreeSet<>();
        Matcher name = Pattern.compile("\\b[A-Z]\\w*[a-z]\\w*\\b").matcher(code);
        while (name.find()) {
            names.add(name.group());
        }
        names.remove("FeederControl");
        for (Class<?> c : FeederControl.class.getDeclaredClasses()) {
            names.remove(c.getSimpleName());
        }
        due("the library's classes in use", names, new TreeSet<>(Arrays.asList("Math", "System")));
    }

    /** Rule 11: a method starts on a line of its own, four or eight signs in, and ends with a brace below its start. */
    private static void lengths(String text) {
        String[] lines = text.split("\n");
        Pattern start = Pattern.compile("^( {4}| {8})(?! |if|for|while|switch|else)[\\w\\[\\]<> ]+\\([^;]*$");
        int methods = 0;
        for (int i = 0; i < lines.length; i++) {
            Matcher m = start.matcher(lines[i]);
            if (m.find()) {
                int end = i;
                while (end < lines.length && !lines[end].equals(m.group(1) + "}")) {
                    end++;
                }
                methods++;
                due(lines[i].trim() + " has an end", end < lines.length, true);
                due(lines[i].trim() + " is short", end - i < 60, true);
            }
        }
        due("as many methods as the public ones at least", methods > FACE.size(), true);
    }

    private static void source(String text) {
        String code = withoutComments(text);
        library(code);
        lengths(code);
        String barred = "\\b(throw|throws|try|catch|finally|synchronized|assert|native|import|package|Object|equals"
            + "|hashCode|toString|Exception|System\\.(?!arraycopy)\\w+|Math\\.\\w+Exact)\\b|->|::|\"";
        Matcher m = Pattern.compile(barred).matcher(code);
        while (m.find()) {
            due("barred or not needed in the source: " + m.group(), true, false);
        }
        due("only signs below 128", text.chars().allMatch(sign -> sign < 128), true);
    }
}
