import java.lang.reflect.InvocationTargetException;
import java.lang.reflect.Method;
import java.lang.reflect.Modifier;
import java.util.ArrayList;
import java.util.Comparator;
import java.util.List;
import java.util.Random;

/** Runs of many calls by a fixed seed: the class and the plain model answer each of them alike. */
final class CompareTest {
    private static final String[] WORDS = {"year", "costs", "miss", "node", "born", "shift", "energy", "link", "tick",
        "send", "call", "watch", "charge", "repeat", "(", ")", ";", "0", "1", "7", "60", "999", "1000", "?", "zz",
        "abcdefghi", "\n"};

    private static final int[] FAR = {Integer.MIN_VALUE, Integer.MIN_VALUE + 1, -9999, -60, -1, 0, 9, 10, 15, 16, 59, 60,
        61, 99, 100, 200, 201, 599, 600, 601, 999, 1000, 9999, 1 << 16, Integer.MAX_VALUE - 1, Integer.MAX_VALUE};

    private final Random random;
    /** Full villages with long names, far arguments, late times. */
    private final boolean isFar;
    private final List<Method> methods = new ArrayList<>();
    private final WakeVillage real = new WakeVillage();
    private final PlainVillage plain = new PlainVillage();
    private final StringBuilder story = new StringBuilder();
    private int nodes;
    private boolean isAlike = true;

    private CompareTest(long seed, boolean isFar) {
        random = new Random(seed);
        this.isFar = isFar;
        for (Method method : WakeVillage.class.getDeclaredMethods()) {
            if (Modifier.isPublic(method.getModifiers())) {
                methods.add(method);
            }
        }
        methods.sort(Comparator.comparing(Method::getName));
    }

    static void run(int runs, int calls) throws Exception {
        for (long seed = 1; seed <= runs; seed++) {
            CompareTest test = new CompareTest(seed, seed % 4 == 0);
            test.oneRun(calls);
            Check.equal("run of seed " + seed + (test.isAlike ? "" : test.story.toString()), test.isAlike, true);
        }
    }

    private void oneRun(int calls) throws Exception {
        feed(text());
        call("readText");
        for (int i = 0; i < calls && isAlike; i++) {
            int kind = random.nextInt(100);
            if (kind < 2) {
                feed(random.nextInt(3) == 0 ? broken(text()) : text());
                call("readText");
            } else if (kind < 7) {
                feed(random.nextInt(3) == 0 ? broken(script(0)) : script(0));
                call("runScript");
                call("errorCode");
                call("errorPosition");
            } else if (kind < 30) {
                call("tick", isFar || random.nextInt(20) == 0 ? number(120) : random.nextInt(8) + 1);
            } else if (kind < 40 || isFar && kind < 60) {
                call("send", aNode(), aNode(), number(50), random.nextInt(3) == 0 ? 1 : 0);
            } else {
                callAny();
            }
            if (i % 7 == 0) {
                lookAtAll();
            }
        }
    }

    private int number(int below) {
        if (isFar && random.nextInt(4) == 0) {
            return FAR[random.nextInt(FAR.length)];
        }
        return random.nextInt(40) == 0 ? random.nextInt(2100) - 50 : random.nextInt(below);
    }

    private int aNode() {
        if (isFar && random.nextInt(10) == 0) {
            return FAR[random.nextInt(FAR.length)];
        }
        return random.nextInt(40) == 0 ? random.nextInt(14) - 2 : random.nextInt(Math.max(1, nodes));
    }

    private void callAny() throws Exception {
        Method method = methods.get(random.nextInt(methods.size()));
        int[] arguments = new int[method.getParameterCount()];
        for (int k = 0; k < arguments.length; k++) {
            boolean isNode = method.getName().matches("meetsIn|hops|nextNode|wouldArrive|bestWatch|send") || k == 0;
            arguments[k] = isNode ? aNode() : number(15);
        }
        if (method.getName().matches("readText|runScript|feed|truncate")) {
            return;
        }
        if (method.getName().matches("restore|undo") && random.nextInt(3) != 0) {
            return;
        }
        call(method.getName(), arguments);
    }

    private void call(String name, int... arguments) throws Exception {
        if (!isAlike) {
            return;
        }
        String got = answer(real, name, arguments);
        String due = answer(plain, name, arguments);
        story.append('\n').append(name);
        for (int argument : arguments) {
            story.append(' ').append(argument);
        }
        story.append(" -> ").append(got);
        if (!got.equals(due)) {
            isAlike = false;
            story.append(", the plain model: ").append(due).append('\n');
        }
        if (name.equals("readText") || name.equals("restore")) {
            nodes = real.setting(0);
        }
    }

    private static String answer(Object object, String name, int[] arguments) throws Exception {
        for (Method method : object.getClass().getMethods()) {
            if (method.getName().equals(name)) {
                Object[] given = new Object[arguments.length];
                for (int i = 0; i < given.length; i++) {
                    boolean isBoolean = method.getParameterTypes()[i] == boolean.class;
                    given[i] = isBoolean ? (Object) ((arguments[i] & 1) == 1) : (Object) arguments[i];
                }
                try {
                    return String.valueOf(method.invoke(object, given));
                } catch (InvocationTargetException e) {
                    return e.getCause().getClass().getName();
                }
            }
        }
        throw new IllegalStateException(name);
    }

    private void lookAtAll() throws Exception {
        for (int what = 0; what <= 10; what++) {
            call("setting", what);
            for (int i = 0; i < real.setting(0); i++) {
                call("node", i, what);
                call("letter", i, what);
                call("inTable", i, what);
            }
            for (int i = 0; i < real.setting(1); i++) {
                call("link", i, what);
            }
            for (int i = 0; i < real.setting(4); i++) {
                call("message", i, what);
            }
        }
        call("report");
        for (int i = 0; i < real.report(); i++) {
            call("reportByte", i);
        }
    }

    private void feed(String text) throws Exception {
        story.append("\n[").append(text).append(']');
        String padded = text + " ".repeat(20);
        int length = Math.min(600, text.length());
        for (int i = 0; i < length; i += 20) {
            int[] words = new int[5];
            for (int k = 0; k < 20; k++) {
                words[k / 4] |= (padded.charAt(i + k) & 255) << 24 - k % 4 * 8;
            }
            call("feed", words);
        }
        call("truncate", length);
    }

    private String text() {
        StringBuilder text = new StringBuilder();
        int many = random.nextInt(8) == 0 ? random.nextInt(13) : isFar ? 10 : 2 + random.nextInt(6);
        int year = 4 + random.nextInt(random.nextInt(4) == 0 ? 57 : 12);
        if (random.nextInt(8) != 0) {
            text.append("year ").append(year).append(";");
        }
        for (int i = 0; i < many; i++) {
            text.append("node ").append(nameOf(i)).append(" born ").append(random.nextInt(year));
            if (random.nextBoolean()) {
                text.append(" shift ").append(random.nextInt(year));
            }
            text.append(" energy ").append(1 + random.nextInt(random.nextBoolean() ? 20 : 300)).append(";");
        }
        int links = random.nextInt(2 * many + 1);
        boolean[] linked = new boolean[400];
        for (int i = 0; i < links; i++) {
            int a = random.nextInt(many);
            int b = random.nextInt(many);
            if (a != b && !linked[a * 20 + b]) {
                linked[a * 20 + b] = true;
                linked[b * 20 + a] = true;
                text.append("link ").append(nameOf(a)).append(' ').append(nameOf(b)).append(";\n");
            }
        }
        if (random.nextInt(3) != 0) {
            int most = random.nextInt(3) * 3 + 1;
            text.append("costs ").append(random.nextInt(most)).append(' ').append(random.nextInt(most)).append(' ');
            text.append(random.nextInt(most)).append(';');
        }
        if (random.nextBoolean()) {
            text.append("miss ").append(1 + random.nextInt(4)).append(";");
        }
        return text.toString();
    }

    private String name() {
        return nameOf(random.nextInt(random.nextInt(30) == 0 ? 20 : Math.max(1, nodes)));
    }

    /** Of far runs up to eight letters, all but the last the same, and some are words of the grammar. */
    private String nameOf(int node) {
        if (isFar && node < 3) {
            return WORDS[3 + node];
        }
        return (isFar ? "zyxwvut".substring(0, node % 8) : "") + (char) ('a' + node);
    }

    private String script(int depth) {
        StringBuilder text = new StringBuilder();
        int many = random.nextInt(6);
        for (int i = 0; i < many; i++) {
            switch (random.nextInt(8)) {
                case 0: text.append("send ").append(name()).append(' ').append(name()); break;
                case 1: text.append("call ").append(name()).append(' ').append(name()); break;
                case 2: text.append("shift ").append(name()); break;
                case 3: text.append("watch ").append(name()); break;
                case 4: text.append("charge ").append(name()); break;
                case 5:
                    if (depth < 2 || random.nextInt(10) == 0) {
                        text.append("repeat ").append(1 + random.nextInt(4)).append(" (").append(script(depth + 1));
                        text.append(");");
                        continue;
                    }
                    text.append("tick");
                    break;
                default: text.append("tick");
            }
            text.append(' ').append(random.nextInt(12)).append(';');
        }
        return text.toString();
    }

    /** A word put in or cut out somewhere. */
    private String broken(String text) {
        int at = random.nextInt(text.length() + 1);
        int end = Math.min(text.length(), at + random.nextInt(6));
        return text.substring(0, at) + " " + WORDS[random.nextInt(WORDS.length)] + " " + text.substring(end);
    }
}
