import java.lang.reflect.Method;
import java.nio.file.Files;
import java.nio.file.Path;
import java.util.regex.Matcher;
import java.util.regex.Pattern;

/** Does the calls of the README's examples; the number with which a comment begins is the answer due. */
final class ReadmeTest {
    private static final Pattern FED = Pattern.compile("feed\\(x, \"(.*)\"\\);");
    private static final Pattern CALL = Pattern.compile("x\\.(\\w+)\\(([^)]*)\\);(?:\\s*// (-?\\d+).*|.*)");

    private WakeVillage x = new WakeVillage();
    private int answers;

    private ReadmeTest() {
    }

    static void run(String readme) throws Exception {
        ReadmeTest test = new ReadmeTest();
        boolean isCode = false;
        for (String line : Files.readAllLines(Path.of(readme))) {
            if (line.startsWith("```")) {
                isCode = line.equals("```java");
            } else if (isCode) {
                test.follow(line);
            }
        }
        Check.equal("README: as many answers as there were", test.answers, 12);
    }

    private void follow(String line) throws Exception {
        Matcher fed = FED.matcher(line);
        Matcher call = CALL.matcher(line);
        if (line.equals("WakeVillage x = new WakeVillage();")) {
            x = new WakeVillage();
        } else if (fed.matches()) {
            Made.feed(x, fed.group(1));
        } else if (call.matches()) {
            String answer = answerOf(call.group(1), call.group(2));
            if (call.group(3) != null) {
                answers++;
                Check.equal("README: " + line, answer, call.group(3));
            }
        } else {
            Check.equal("README: a line that can be followed: " + line, false, true);
        }
    }

    private String answerOf(String name, String arguments) throws Exception {
        String[] words = arguments.isEmpty() ? new String[0] : arguments.split(", ");
        for (Method method : WakeVillage.class.getMethods()) {
            if (method.getName().equals(name)) {
                Object[] given = new Object[words.length];
                for (int i = 0; i < words.length; i++) {
                    boolean isBoolean = method.getParameterTypes()[i] == boolean.class;
                    given[i] = isBoolean ? (Object) Boolean.valueOf(words[i]) : (Object) Integer.decode(words[i]);
                }
                return String.valueOf(method.invoke(x, given));
            }
        }
        return "no such call";
    }
}
