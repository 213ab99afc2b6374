import java.lang.reflect.Method;
import java.lang.reflect.Modifier;
import java.nio.file.Files;
import java.nio.file.Path;
import java.util.regex.Matcher;
import java.util.regex.Pattern;

/** The calls of the example in README.md answer what stands behind them, and README names every call. */
public final class ReadmeTest {
    private static final Pattern CALL = Pattern.compile("x\\.(\\w+)\\(([^)]*)\\);\\s*// (\\S+)");
    private static int wrong = 0;

    public static void main(String[] args) throws Exception {
        String readme = Files.readString(Path.of("README.md"));
        int calls = runTheExample(readme);
        namesEveryCall(readme);
        System.out.println("ReadmeTest: " + calls + " calls, " + wrong + " wrong");
        if (wrong != 0) {
            System.exit(1);
        }
    }

    private static int runTheExample(String readme) throws Exception {
        ThreshRound x = new ThreshRound();
        int calls = 0;
        for (String line : readme.lines().toList()) {
            if (!line.startsWith("x.")) {
                continue;
            }
            Matcher call = CALL.matcher(line);
            if (!call.matches()) {
                complain("no answer stands behind: " + line);
                continue;
            }
            String answer = String.valueOf(answerTo(x, call.group(1), call.group(2)));
            if (!answer.equals(call.group(3))) {
                complain(line + " answered " + answer);
            }
            calls++;
        }
        if (calls == 0) {
            complain("README.md has no example");
        }
        return calls;
    }

    private static Object answerTo(ThreshRound x, String name, String list) throws Exception {
        String[] told = list.isEmpty() ? new String[0] : list.split(", ");
        Object[] numbers = new Object[told.length];
        Class<?>[] kinds = new Class<?>[told.length];
        for (int i = 0; i < told.length; i++) {
            numbers[i] = Integer.decode(told[i]);
            kinds[i] = int.class;
        }
        return ThreshRound.class.getMethod(name, kinds).invoke(x, numbers);
    }

    private static void namesEveryCall(String readme) {
        for (Method method : ThreshRound.class.getDeclaredMethods()) {
            if (Modifier.isPublic(method.getModifiers()) && !readme.contains("| `" + method.getName() + "(")) {
                complain("README.md's table doesn't name " + method.getName());
            }
        }
    }

    private static void complain(String what) {
        wrong++;
        System.out.println(what);
    }
}
