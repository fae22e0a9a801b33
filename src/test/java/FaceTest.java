import java.lang.reflect.Constructor;
import java.lang.reflect.Field;
import java.lang.reflect.Method;
import java.lang.reflect.Modifier;
import java.nio.file.Files;
import java.nio.file.Path;
import java.util.ArrayList;
import java.util.Arrays;
import java.util.List;
import java.util.Map;
import java.util.TreeMap;

/** 'The public face': the members of the class are those of the document, in its order and its words, and no others. */
public final class FaceTest {
    /** What the interface says ahead of the calls, and the calls, as the document has them. */
    private static final String[][] FACE = {
        {"---- streets", "int feed(int n, long bytes)", "int street(int s)", "int fault()", "int told(int s, int what)",
            "int door(int s, int i, int what)", "int chance(int s, int i, boolean free)", "int taking(int s, int r, int i)"},
        {"---- the best way", "int worth(int s, int r, int i, int sight)", "int goingOn(int s, int r, int i, int sight)",
            "int takes(int s, int r, int i, int sight)", "int start(int s, int r)", "int end(int s, int r, int what)",
            "int bar(int s, int r)", "int which(int a, int b)"},
        {"---- rules, the row", "int rule()", "int mean(int s, int rule, int what)", "int saw(boolean free)", "int clear()",
            "int judge(int s, int r, boolean taken)", "int thought(int a, int b)"},
        {"---- waiting, the boy", "int waits(int s, int r, int i, int sight, int q, int u, int what)", "int boy(int s)"},
        {"---- cars", "int car(int walk, int bar)", "int steer(int c, int b)", "int parks(int s, int set, int c, int what)",
            "int rests(int s, int set)", "int turn(int s, int set)", "int allRests(int s, int set)", "int lost(int s, int set)",
            "int mend(int s, int set, int x)"},
        {"---- evenings, images", "int seed(int v)", "int evening(int s, int rule, int n)", "int count(int what)", "int keep(int i)",
            "int goBack(int i)"}};
    private static final String CONSTANTS = "public static final int NONE = -1, UNKNOWN = -1001, OUTSIDE = -1002, NOT = -1003, FULL = -1004;";

    public static void main(String[] args) throws Exception {
        theClass();
        constants();
        constructor();
        methods();
        classesInside();
        inTheDocumentsWords(Files.readString(Path.of("src/main/java/LastPlace.java")));
        Due.close();
    }

    private static void yes(String what, boolean so) {
        Due.is(what, so ? 1 : 0, 1);
    }

    private static void theClass() {
        Class<?> type = LastPlace.class;
        yes("public and final", Modifier.isPublic(type.getModifiers()) && Modifier.isFinal(type.getModifiers()));
        yes("not abstract", !Modifier.isAbstract(type.getModifiers()));
        yes("without a package", type.getPackageName().isEmpty());
        yes("of no other class", type.getSuperclass() == Object.class);
        Due.is("of no interface", type.getInterfaces().length, 0);
        Due.is("of no types of its own", type.getTypeParameters().length, 0);
    }

    private static void constants() throws IllegalAccessException {
        Map<String, Integer> due = new TreeMap<>(Map.of("NONE", -1, "UNKNOWN", -1001, "OUTSIDE", -1002, "NOT", -1003, "FULL", -1004));
        for (Field field : LastPlace.class.getDeclaredFields()) {
            int m = field.getModifiers();
            if (Modifier.isPrivate(m)) {
                continue;
            }
            Integer value = due.remove(field.getName());
            yes(field + " is in the document", value != null);
            yes(field + " is public, static, final, int",
                    Modifier.isPublic(m) && Modifier.isStatic(m) && Modifier.isFinal(m) && field.getType() == int.class);
            if (value != null) {
                Due.is(field.getName(), field.getInt(null), value);
            }
        }
        yes("no constant lacks: " + due.keySet(), due.isEmpty());
    }

    private static void constructor() {
        Constructor<?>[] all = LastPlace.class.getDeclaredConstructors();
        Due.is("one constructor", all.length, 1);
        for (Constructor<?> one : all) {
            yes("it is public", Modifier.isPublic(one.getModifiers()));
            Due.is("it takes nothing", one.getParameterCount(), 0);
            Due.is("it throws nothing that is told", one.getExceptionTypes().length, 0);
        }
    }

    private static void methods() {
        List<String> due = new ArrayList<>();
        for (String[] group : FACE) {
            for (int k = 1; k < group.length; k++) {
                due.add(withoutNames(group[k]));
            }
        }
        Due.is("calls in the document", due.size(), 35);
        List<String> publicNames = new ArrayList<>();
        List<String> privateNames = new ArrayList<>();
        for (Method method : LastPlace.class.getDeclaredMethods()) {
            int m = method.getModifiers();
            if (Modifier.isPrivate(m)) {
                privateNames.add(method.getName());
                continue;
            }
            publicNames.add(method.getName());
            String types = Arrays.stream(method.getParameterTypes()).map(Class::getName).reduce((a, b) -> a + "," + b).orElse("");
            String sign = method.getReturnType().getName() + " " + method.getName() + "(" + types + ")";
            yes(method + " is in the document", due.remove(sign));
            yes(method + " is public, not static", Modifier.isPublic(m) && !Modifier.isStatic(m));
            Due.is(method + " throws nothing that is told", method.getExceptionTypes().length, 0);
        }
        yes("no call lacks: " + due, due.isEmpty());
        privateNames.retainAll(publicNames);
        yes("no private method bears a public name: " + privateNames, privateNames.isEmpty());
    }

    private static String withoutNames(String call) {
        return call.replaceAll("(int|long|boolean) \\w+(?=[,)])", "$1").replace(", ", ",");
    }

    private static void classesInside() {
        for (Class<?> type : LastPlace.class.getDeclaredClasses()) {
            int m = type.getModifiers();
            yes(type + " is private or package-visible", !Modifier.isPublic(m) && !Modifier.isProtected(m));
            yes(type + " is static", Modifier.isStatic(m));
        }
    }

    /** "Ahead of the calls ... the interface says": each group behind its line, the calls in their order. */
    private static void inTheDocumentsWords(String source) {
        yes(CONSTANTS, source.contains(CONSTANTS));
        int at = source.indexOf("public LastPlace() {");
        yes("the constructor stands first", at > 0);
        for (String[] group : FACE) {
            for (int k = 0; k < group.length; k++) {
                String line = k == 0 ? "    // " + group[k] + "\n" : "    public " + group[k] + " {\n";
                int next = source.indexOf(line, Math.max(at, 0));
                yes("'" + line.strip() + "' stands there, behind what is ahead of it", next > at);
                Due.is("'" + line.strip() + "' stands once", source.indexOf(line, next + 1), -1);
                at = next;
            }
        }
    }
}
