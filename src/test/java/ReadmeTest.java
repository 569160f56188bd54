import java.lang.reflect.Method;
import java.lang.reflect.Modifier;
import java.nio.file.Files;
import java.nio.file.Path;
import java.util.regex.Matcher;
import java.util.regex.Pattern;

/** What README.md says of the class: its example gives the answers that stand behind each call, every call is named. */
public final class ReadmeTest {
    private static final Pattern TOLD = Pattern.compile("told = \"([^\"]*)\";");
    private static final Pattern CALL = Pattern.compile("^bank\\.(\\w+)\\(([^)]*)\\); *// (-?\\d+): ");
    private static final Checks c = new Checks();

    public static void main(String[] args) throws Exception {
        c.at("README.md");
        String page = Files.readString(Path.of("README.md"));
        example(page);
        for (Method m : BlushBank.class.getDeclaredMethods()) {
            if (Modifier.isPublic(m.getModifiers())) {
                c.holds(m.getName() + " is not named", page.contains("`" + m.getName() + "`"));
            }
        }
        c.finish();
    }

    private static void example(String page) throws Exception {
        Matcher told = TOLD.matcher(page);
        BlushBank bank = new BlushBank();
        if (told.find()) {
            Checks.type(bank, told.group(1));
        }
        int calls = 0;
        for (String line : page.split("\n")) {
            Matcher call = CALL.matcher(line);
            if (call.find()) {
                calls++;
                int got = answer(bank, call.group(1), call.group(2));
                c.due(call.group(1) + "(" + call.group(2) + ")", got, Integer.parseInt(call.group(3)));
            }
        }
        c.due("calls in the example", calls, 20);
    }

    private static int answer(BlushBank bank, String name, String written) throws Exception {
        String[] words = written.isEmpty() ? new String[0] : written.split(", ");
        for (Method m : BlushBank.class.getDeclaredMethods()) {
            if (m.getName().equals(name) && m.getParameterCount() == words.length) {
                Object[] values = new Object[words.length];
                for (int i = 0; i < words.length; i++) {
                    boolean isFlag = m.getParameterTypes()[i] == boolean.class;
                    values[i] = isFlag ? (Object) Boolean.valueOf(words[i]) : (Object) Integer.valueOf(words[i]);
                }
                return (Integer) m.invoke(bank, values);
            }
        }
        throw new IllegalStateException("no call " + name + "(" + written + ")");
    }
}
