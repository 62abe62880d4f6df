import java.lang.reflect.Constructor;
import java.lang.reflect.Field;
import java.lang.reflect.Method;
import java.lang.reflect.Modifier;
import java.nio.file.Files;
import java.nio.file.Path;
import java.util.Set;
import java.util.TreeSet;

/** The public face of the class, and those rules of the language that can be seen from outside. */
final class FaceTests {
    private static final String[] FACE = {
        "int begin(int, int, int)", "int setSpeed(int, int)", "int set(int, int)", "int count(int)",
        "int crew(int, int)", "int at(int)", "int starter(int)", "int bump(int, int)", "int why(int, int)",
        "int bumped(int, int)", "int rerow(int)", "int finish()", "int undo()", "int foretold(int, int)", "int row()",
        "int distanceBits(int, int)", "int speedFor(int)", "int place(int, int)", "int again(int, int)",
        "int bestRise()", "int type(int)", "int clearText()", "int fault(int)", "int enter()"};

    private FaceTests() { }

    static void run(String source) throws Exception {
        constants();
        face();
        classesInside();
        words(Files.readString(Path.of(source)));
    }

    private static void constants() throws Exception {
        Check.due("INVALID_ARGUMENT", BumpsChart.INVALID_ARGUMENT, -1001);
        Check.due("NOT_POSSIBLE", BumpsChart.NOT_POSSIBLE, -1002);
        Check.due("LIMIT_REACHED", BumpsChart.LIMIT_REACHED, -1003);
        Check.due("NOT_FOUND", BumpsChart.NOT_FOUND, -1004);
        Set<String> open = new TreeSet<>();
        for (Field f : BumpsChart.class.getDeclaredFields()) {
            if (!Modifier.isPrivate(f.getModifiers())) {
                open.add(Modifier.toString(f.getModifiers()) + " " + f.getName());
            }
        }
        Check.same("open fields", open.toString(), "[public static final INVALID_ARGUMENT, "
            + "public static final LIMIT_REACHED, public static final NOT_FOUND, public static final NOT_POSSIBLE]");
    }

    private static String told(Method m) {
        StringBuilder text = new StringBuilder(m.getReturnType() + " " + m.getName() + "(");
        for (Class<?> type : m.getParameterTypes()) {
            text.append(text.charAt(text.length() - 1) == '(' ? "" : ", ").append(type);
        }
        return text.append(")").toString();
    }

    private static void face() {
        Check.due("the class is public and final", BumpsChart.class.getModifiers(), Modifier.PUBLIC | Modifier.FINAL);
        Constructor<?>[] constructors = BumpsChart.class.getDeclaredConstructors();
        Check.due("constructors", constructors.length, 1);
        Check.due("it is public", constructors[0].getModifiers(), Modifier.PUBLIC);
        Check.due("without parameters", constructors[0].getParameterCount(), 0);
        Set<String> open = new TreeSet<>();
        for (Method m : BumpsChart.class.getDeclaredMethods()) {
            if (!Modifier.isPrivate(m.getModifiers())) {
                open.add(told(m));
                Check.due(told(m) + " is public, and no more", m.getModifiers(), Modifier.PUBLIC);
                Check.due(told(m) + " declares no exception", m.getExceptionTypes().length, 0);
            }
        }
        Check.same("open methods", open.toString(), new TreeSet<>(Set.of(FACE)).toString());
    }

    private static void classesInside() {
        Class<?>[] inside = BumpsChart.class.getDeclaredClasses();
        Check.holds("at most twelve classes", inside.length < 12);
        for (Class<?> c : inside) {
            Check.holds(c + " is static", Modifier.isStatic(c.getModifiers()));
            Check.holds(c + " is not public", !Modifier.isPublic(c.getModifiers()));
            Check.holds(c + " has few fields", c.getDeclaredFields().length <= 20);
            for (Method m : c.getDeclaredMethods()) {
                for (String f : FACE) {
                    Check.holds(c + " has no method with a name of the face", !f.startsWith("int " + m.getName() + "("));
                }
            }
        }
    }

    private static void words(String source) {
        String[] none = {"import ", "package ", "throw", "catch", "try ", "finally", "synchronized", "assert", "::",
            "->", "Float.", "Double.", "Exact(", "String", "null)" + ";", "static final double", "static final float"};
        for (String word : none) {
            Check.holds("no '" + word + "' in the source", !source.contains(word));
        }
        for (int i = 0; i < source.length(); i++) {
            if (source.charAt(i) > 126) {
                Check.holds("only plain signs in the source", false);
            }
        }
    }
}
