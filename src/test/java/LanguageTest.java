import java.lang.reflect.Field;
import java.lang.reflect.Method;
import java.lang.reflect.Modifier;
import java.nio.file.Files;
import java.nio.file.Path;
import java.util.Arrays;
import java.util.Map;
import java.util.Set;
import java.util.TreeMap;
import java.util.TreeSet;
import java.util.regex.Matcher;
import java.util.regex.Pattern;

/** The rules of LANGUAGE.md that a program can look at: members, the words that may not stand, sizes, depths. FaceTest has the face. */
public final class LanguageTest {
    private static final String FORBIDDEN = "throw|try|catch|synchronized|assert|import|package|instanceof|double|float|equals|hashCode"
            + "|toString|finally|protected|default ->|Exact|Object|Random|Thread|currentTimeMillis|nanoTime|native|volatile|transient";

    public static void main(String[] args) throws Exception {
        String source = Files.readString(Path.of("src/main/java/LastPlace.java"));
        members();
        words(code(source));
        sizes(source);
        depths(code(source));
        Due.close();
    }

    private static void members() {
        Set<String> publicNames = new TreeSet<>();
        for (Method method : LastPlace.class.getDeclaredMethods()) {
            boolean open = Modifier.isPublic(method.getModifiers());
            Due.is(method + " is public or private", open || Modifier.isPrivate(method.getModifiers()) ? 1 : 0, 1);
            Due.is(method + " is not made by the compiler", method.isSynthetic() ? 1 : 0, 0);
            if (open) {
                publicNames.add(method.getName());
            }
        }
        insideMembers(LastPlace.class, Set.of());
        Class<?>[] inside = LastPlace.class.getDeclaredClasses();
        Due.is("twelve classes at most", inside.length <= 12 ? 1 : 0, 1);
        for (Class<?> type : inside) {
            insideMembers(type, publicNames);
        }
    }

    private static void insideMembers(Class<?> type, Set<String> publicNames) {
        int fields = 0;
        for (Field field : type.getDeclaredFields()) {
            int m = field.getModifiers();
            Due.is(field + ", if static, is final", !Modifier.isStatic(m) || Modifier.isFinal(m) ? 1 : 0, 1);
            fields += Modifier.isStatic(m) ? 0 : 1;
        }
        Due.is(type + " has twenty fields at most", fields <= 20 ? 1 : 0, 1);
        for (Method method : type.getDeclaredMethods()) {
            Due.is(method + " takes seven at most", method.getParameterCount() <= 7 ? 1 : 0, 1);
            Due.is(method + " does not bear a public name", publicNames.contains(method.getName()) ? 1 : 0, 0);
        }
    }

    /** The source without its comments and texts. */
    private static String code(String source) {
        String bare = source.replaceAll("(?s)/\\*.*?\\*/", " ").replaceAll("//[^\n]*", " ");
        return bare.replaceAll("\"[^\"\n]*\"", "\"\"").replaceAll("'[^'\n]+'", "' '");
    }

    private static void words(String code) {
        Matcher matcher = Pattern.compile("\\b(" + FORBIDDEN + ")\\b|->|::|\\blambda\\b").matcher(code);
        while (matcher.find()) {
            Due.is("'" + matcher.group() + "' stands in the program", 1, 0);
        }
        Matcher calls = Pattern.compile("\\b(Math|Integer|Long|System|Arrays|String)\\.(\\w+)").matcher(code);
        Set<String> allowed = Set.of("Math.max", "Math.min", "Integer.bitCount", "System.arraycopy");
        while (calls.find()) {
            Due.is("'" + calls.group() + "' is in the library", allowed.contains(calls.group()) ? 1 : 0, 1);
        }
    }

    private static void sizes(String source) {
        String[] lines = source.split("\n", -1);
        int begin = -1;
        int indent = 0;
        for (int k = 0; k < lines.length; k++) {
            String line = lines[k];
            Due.is("line " + (k + 1) + " has signs 1 to 126 alone", line.chars().allMatch(c -> c >= 32 && c <= 126) ? 1 : 0, 1);
            int blanks = line.length() - line.stripLeading().length();
            if (begin < 0 && line.endsWith(") {") && (blanks == 4 || blanks == 8) && !line.matches(" *(if|for|while|switch|\\}).*")) {
                begin = k;
                indent = blanks;
            } else if (begin >= 0 && line.equals(" ".repeat(indent) + "}")) {
                Due.is("the method at line " + (begin + 1) + " is short", k - begin + 1 <= 60 ? 1 : 0, 1);
                Due.is("the method at line " + (begin + 1) + " makes no object", makesNone(lines, begin, k) ? 1 : 0, 1);
                begin = -1;
            }
        }
        Due.is("methods were found", begin, -1);
    }

    /** All rows are made in constructors, so that no run of calls fills the room. */
    private static boolean makesNone(String[] lines, int begin, int end) {
        boolean constructor = lines[begin].matches(" *(public )?[A-Z]\\w*\\(.*");
        return constructor || Arrays.stream(lines, begin, end).noneMatch(line -> line.matches(".*\\bnew\\b.*"));
    }

    /** By names alone: methods of one name count as one, which can only make a way longer. */
    private static void depths(String code) {
        Map<String, Set<String>> calls = new TreeMap<>();
        Matcher heads = Pattern.compile("\\n( {4}| {8})(?! |return|else|new|if|for|while|switch)[\\w\\[\\] ]*?(\\w+)\\([^()]*\\) \\{\\n(.*?)\\n\\1\\}", Pattern.DOTALL)
                .matcher(code);
        for (int from = 0; heads.find(from); from = heads.end() - 1) {
            Set<String> called = calls.computeIfAbsent(heads.group(2), name -> new TreeSet<>());
            Matcher names = Pattern.compile("\\b(\\w+)\\(").matcher(heads.group(3));
            while (names.find()) {
                called.add(names.group(1));
            }
        }
        Due.is("the methods were found", calls.containsKey("feed") && calls.containsKey("reckonNext") ? 1 : 0, 1);
        int deepest = 0;
        for (String name : calls.keySet()) {
            deepest = Math.max(deepest, depth(calls, name, 0));
        }
        System.out.println("methods by name: " + calls.size() + ", calls go " + deepest + " deep");
        Due.is("calls go eight deep at most", deepest <= 8 ? 1 : 0, 1);
    }

    /** A method that comes back to itself would go on to 100. */
    private static int depth(Map<String, Set<String>> calls, String name, int above) {
        int deepest = 0;
        if (above < 100) {
            for (String called : calls.getOrDefault(name, Set.of())) {
                if (calls.containsKey(called)) {
                    deepest = Math.max(deepest, depth(calls, called, above + 1));
                }
            }
        }
        return deepest + 1;
    }
}
