import java.lang.reflect.Constructor;
import java.lang.reflect.Field;
import java.lang.reflect.Method;
import java.lang.reflect.Modifier;
import java.nio.charset.StandardCharsets;
import java.nio.file.Files;
import java.nio.file.Path;
import java.util.ArrayList;
import java.util.Arrays;
import java.util.HashMap;
import java.util.HashSet;
import java.util.List;
import java.util.Map;
import java.util.Set;
import java.util.TreeMap;
import java.util.TreeSet;
import java.util.regex.Matcher;
import java.util.regex.Pattern;

/** The public face, and the rules of LANGUAGE.md as far as a look at the source can tell. */
final class LanguageTest {
    private static final String RANGE = "IndexOutOfBoundsException";
    private static final String ARGUMENT = "IllegalArgumentException";
    private static final String STATE = "IllegalStateException";
    private static final String[] FACE = {
        "int feed int int int int int / " + STATE, "int truncate int / " + ARGUMENT, "int readText / " + ARGUMENT,
        "int runScript / " + ARGUMENT, "int errorCode /", "int errorPosition /", "int setting int / " + ARGUMENT,
        "int node int int / " + RANGE + " " + ARGUMENT, "int link int int / " + RANGE + " " + ARGUMENT,
        "int message int int / " + RANGE + " " + ARGUMENT, "int letter int int / " + RANGE,
        "boolean inTable int int / " + RANGE + " " + ARGUMENT, "float duty int / " + RANGE, "double meanEnergy /",
        "int awakeIn int / " + ARGUMENT, "int meetsIn int int / " + RANGE, "int worstLink /", "int busiest /",
        "int hops int int / " + RANGE, "int nextNode int int / " + RANGE, "int widest /", "int arrives int / " + RANGE,
        "int wouldArrive int int boolean / " + RANGE + " " + ARGUMENT, "int outIn int / " + RANGE,
        "int energyIn int int / " + RANGE + " " + ARGUMENT, "int takesIn /", "int bestShift int / " + RANGE,
        "int bestWatch int int / " + RANGE + " " + ARGUMENT, "int tick int / " + ARGUMENT + " " + STATE,
        "int send int int int boolean / " + RANGE + " " + ARGUMENT + " " + STATE,
        "int setShift int int / " + RANGE + " " + ARGUMENT, "boolean watch int int boolean / " + RANGE + " " + ARGUMENT,
        "int setBorn int int / " + RANGE + " " + ARGUMENT, "int charge int int / " + RANGE + " " + ARGUMENT,
        "int setMiss int / " + ARGUMENT, "int report /", "int reportByte int / " + RANGE, "int undo /", "int save /",
        "int restore / " + STATE};
    private static final String FORBIDDEN = "\\b(import|package|synchronized|assert|finally|try|catch|volatile|"
            + "transient|native|strictfp|var|record|sealed|System|Object|Thread|throw new (?!" + RANGE + "|" + ARGUMENT
            + "|" + STATE + ")\\w+|Math\\.(?!min|max)\\w+|Integer\\.(?!bitCount)\\w+|Long\\.(?!bitCount)\\w+)\\b|->|::|@";
    private static final Pattern METHOD = Pattern.compile(
            "\\n( {4}| {8})((?:(?:public|private|static|final) )*)([\\w\\[\\]]+ )?(\\w+)\\(([^)]*)\\)[^;{}]*\\{\\n");

    private LanguageTest() {
    }

    static void run(String path) throws Exception {
        face();
        Set<String> publicNames = new HashSet<>();
        for (Method method : WakeVillage.class.getDeclaredMethods()) {
            if (Modifier.isPublic(method.getModifiers())) {
                publicNames.add(method.getName());
            }
        }
        classes(publicNames);
        source(Files.readString(Path.of(path), StandardCharsets.US_ASCII));
    }

    private static void face() {
        Set<String> due = new TreeSet<>(Arrays.asList(FACE));
        Set<String> got = new TreeSet<>();
        for (Method method : WakeVillage.class.getDeclaredMethods()) {
            if (!Modifier.isPrivate(method.getModifiers())) {
                StringBuilder text = new StringBuilder(method.getReturnType().getSimpleName() + " " + method.getName());
                for (Class<?> parameter : method.getParameterTypes()) {
                    text.append(' ').append(parameter.getSimpleName());
                }
                text.append(" /");
                for (Class<?> exception : method.getExceptionTypes()) {
                    text.append(' ').append(exception.getSimpleName());
                }
                got.add(text.toString());
            }
        }
        Check.equal("the face", got, due);
        Check.equal("the class", WakeVillage.class.getModifiers(), Modifier.PUBLIC | Modifier.FINAL);
        for (Constructor<?> constructor : WakeVillage.class.getDeclaredConstructors()) {
            Check.equal("constructor", constructor.getModifiers() + constructor.getParameterCount(), Modifier.PUBLIC);
        }
        for (Field field : WakeVillage.class.getDeclaredFields()) {
            Check.equal("field " + field.getName(), Modifier.isPrivate(field.getModifiers()),
                    !field.getName().equals("NONE"));
        }
    }

    private static void classes(Set<String> publicNames) {
        List<Class<?>> all = new ArrayList<>(Arrays.asList(WakeVillage.class.getDeclaredClasses()));
        for (Class<?> inside : all) {
            Check.equal("class " + inside, Modifier.isStatic(inside.getModifiers())
                    && Modifier.isPrivate(inside.getModifiers()), true);
            for (Method method : inside.getDeclaredMethods()) {
                Check.equal("a name of the face: " + method, publicNames.contains(method.getName()), false);
            }
        }
        all.add(WakeVillage.class);
        Check.equal("at most twelve classes", all.size() <= 12, true);
        for (Class<?> one : all) {
            int fields = 0;
            for (Field field : one.getDeclaredFields()) {
                boolean isStatic = Modifier.isStatic(field.getModifiers());
                fields += isStatic ? 0 : 1;
                Check.equal("static and not final: " + field, isStatic && !Modifier.isFinal(field.getModifiers()), false);
            }
            Check.equal("at most twenty fields: " + one, fields <= 20, true);
            for (Method method : one.getDeclaredMethods()) {
                Check.equal("at most seven parameters: " + method, method.getParameterCount() <= 7, true);
            }
        }
    }

    private static void source(String text) {
        String bare = text.replaceAll("(?s)/\\*.*?\\*/", "").replaceAll("//[^\\n]*", "");
        Matcher texts = Pattern.compile("\"[^\"\\n]*\" *\\+|\\+ *\"").matcher(bare);
        Check.equal("texts joined by +", texts.find(), false);
        bare = bare.replaceAll("\"[^\"\\n]*\"", "\"\"").replaceAll("'(\\\\.|[^'\\\\])'", "'x'");
        Matcher forbidden = Pattern.compile(FORBIDDEN).matcher(bare);
        while (forbidden.find()) {
            Check.equal("in the source", forbidden.group(), "nothing such");
        }
        Map<String, Set<String>> calls = new TreeMap<>();
        Matcher method = METHOD.matcher(bare);
        while (method.find()) {
            int end = bare.indexOf("\n" + method.group(1) + "}\n", method.end() - 1);
            String body = bare.substring(method.end(), Math.max(method.end(), end));
            String name = method.group(4);
            Check.equal("at most sixty lines: " + name, body.split("\n").length <= 60, true);
            Matcher call = Pattern.compile("(?<!new )\\b(\\w+)\\(").matcher(body);
            calls.putIfAbsent(name, new TreeSet<>());
            while (call.find()) {
                calls.get(name).add(call.group(1));
            }
        }
        Check.equal("methods were found", calls.size() > 100, true);
        Map<String, Integer> depths = new HashMap<>();
        for (String name : calls.keySet()) {
            Check.equal("at most eight calls deep: " + name, depth(name, calls, depths, 1) <= 8, true);
        }
    }

    /** Methods of one name in several classes count as one; copyFrom() of a village calls that of its parts. */
    private static int depth(String name, Map<String, Set<String>> calls, Map<String, Integer> depths, int level) {
        if (!calls.containsKey(name)) {
            return 0;
        }
        if (level > 30) {
            return 99;
        }
        if (!depths.containsKey(name)) {
            int deepest = 0;
            for (String next : calls.get(name)) {
                if (!next.equals(name)) {
                    deepest = Math.max(deepest, depth(next, calls, depths, level + 1));
                }
            }
            depths.put(name, deepest + 1);
        }
        return depths.get(name);
    }
}
