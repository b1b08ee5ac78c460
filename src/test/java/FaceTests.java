import java.io.IOException;
import java.lang.reflect.Constructor;
import java.lang.reflect.Field;
import java.lang.reflect.Method;
import java.lang.reflect.Modifier;
import java.nio.file.Files;
import java.nio.file.Path;
import java.util.Arrays;
import java.util.Set;
import java.util.TreeSet;
import java.util.regex.Matcher;
import java.util.regex.Pattern;

/** The public face, and those rules of LANGUAGE.md that can be seen from the class and its source text. */
public final class FaceTests {
    private static final String SOURCE = "src/main/java/FeederControl.java";
    private static final Set<String> FACE = new TreeSet<>(Arrays.asList(
        "int setSource(int)", "int addNode(int,int,int,int)", "int setLoad(int,int,int)", "int setFactor(int,int)",
        "int append(int)", "int clearText()", "int parseProfile()", "int addRegulator(int,int,int,int,int)",
        "int setTap(int,int)", "int addBank(int,int,int,int,int,int)", "int switchBank(int,int)", "int run(int)",
        "int minute()", "int voltage(int)", "int activeFlow(int)", "int reactiveFlow(int)", "int tap(int)",
        "int timer(int)", "int isLocked(int)", "int steps(int)", "int isOn(int)", "int violations()",
        "int planSteps(int)", "int planTap(int,int)", "int undo()", "int errorCount(int)", "long digest()"));
    private static final Set<String> CONSTANTS = new TreeSet<>(Arrays.asList(
        "OUT_OF_RANGE", "EXISTS", "MISSING", "FULL", "NOTHING_SAVED"));

    private static int wrong = 0;

    public static void main(String[] args) throws IOException {
        face();
        nestedClasses();
        source(Files.readString(Path.of(SOURCE)));
        System.out.println("FaceTests: " + wrong + " wrong");
        if (wrong != 0) {
            System.exit(1);
        }
    }

    private static void due(String what, Object got, Object want) {
        if (!got.equals(want)) {
            wrong++;
            System.out.println(what + " is " + got + ", due is " + want);
        }
    }

    private static String signature(Method m) {
        StringBuilder s = new StringBuilder(m.getReturnType() + " " + m.getName() + "(");
        for (Class<?> p : m.getParameterTypes()) {
            s.append(s.charAt(s.length() - 1) == '(' ? "" : ",").append(p);
        }
        return s.append(')').toString();
    }

    private static void face() {
        Class<?> c = FeederControl.class;
        due("the class's modifiers", Modifier.toString(c.getModifiers()), "public final");
        Set<String> methods = new TreeSet<>();
        Set<String> publicNames = new TreeSet<>();
        for (Method m : c.getDeclaredMethods()) {
            if (Modifier.isPublic(m.getModifiers())) {
                methods.add(signature(m));
                publicNames.add(m.getName());
                due(m + " static", Modifier.isStatic(m.getModifiers()), false);
            }
        }
        due("the public methods", methods, FACE);
        for (Method m : c.getDeclaredMethods()) {
            if (!Modifier.isPublic(m.getModifiers())) {
                due(m + " private", Modifier.isPrivate(m.getModifiers()), true);
                due(m + " bears a public name", publicNames.contains(m.getName()), false);
            }
        }
        Constructor<?>[] constructors = c.getDeclaredConstructors();
        due("the constructors", constructors.length, 1);
        due("the constructor", constructors[0].toString(), "public FeederControl()");
        Set<String> constants = new TreeSet<>();
        for (Field f : c.getDeclaredFields()) {
            if (!Modifier.isPrivate(f.getModifiers())) {
                constants.add(f.getName());
                due(f.getName(), Modifier.toString(f.getModifiers()) + " " + f.getType(), "public static final int");
            }
        }
        due("the public constants", constants, CONSTANTS);
    }

    private static void nestedClasses() {
        Class<?>[] classes = FeederControl.class.getDeclaredClasses();
        due("no more than some twelve classes", classes.length < 12, true);
        for (Class<?> c : classes) {
            due(c + " static", Modifier.isStatic(c.getModifiers()), true);
            due(c + " hidden", Modifier.isPublic(c.getModifiers()) || Modifier.isProtected(c.getModifiers()), false);
            for (Field f : c.getDeclaredFields()) {
                boolean mutableStatic = Modifier.isStatic(f.getModifiers()) && !Modifier.isFinal(f.getModifiers());
                due(f + " static but not final", mutableStatic, false);
            }
        }
    }

    private static void source(String text) {
        String code = text.replaceAll("(?s)/\\*.*?\\*/", "").replaceAll("//[^\n]*", "");
        String barred = "\\b(throw|throws|try|catch|finally|synchronized|assert|native|import|package|Object|equals"
            + "|hashCode|toString|Exception|System\\.(?!arraycopy)\\w+|Math\\.\\w+Exact)\\b|->|::|\"";
        Matcher m = Pattern.compile(barred).matcher(code);
        while (m.find()) {
            due("barred or not needed in the source: " + m.group(), true, false);
        }
        due("only signs below 128", text.chars().allMatch(sign -> sign < 128), true);
    }
}
