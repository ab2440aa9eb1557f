import java.lang.reflect.InvocationTargetException;
import java.lang.reflect.Method;
import java.nio.file.Files;
import java.nio.file.Path;
import java.util.ArrayList;
import java.util.Arrays;
import java.util.List;
import java.util.regex.Matcher;
import java.util.regex.Pattern;

/** Does what README.md shows and holds each call against the answer that stands behind it; looks that no method lacks there. */
public final class ReadmeTest {
    private static final Pattern CALL = Pattern.compile("x\\.(\\w+)\\(([^)]*)\\);\\s+// (throws \\w+|true|false|-?\\d+).*");
    private static final Pattern TEXT = Pattern.compile("```text\n(.*?)```", Pattern.DOTALL);
    private static int wrong = 0;
    private static int shown = 0;

    private static void hold(String what, boolean so) {
        if (!so) {
            wrong++;
            System.out.println("README.md: " + what);
        }
    }

    public static void main(String[] args) throws Exception {
        String page = Files.readString(Path.of("README.md"));
        List<String> called = walk(page);
        for (Method method : SagGates.class.getDeclaredMethods()) {
            if (java.lang.reflect.Modifier.isPublic(method.getModifiers())) {
                String name = method.getName();
                hold(name + " is shown by no call", called.contains(name));
                hold(name + " stands in no table with its " + method.getParameterCount() + " arguments", isTold(page, method));
            }
        }
        hold("no calls are found", shown > 0);
        System.out.println(wrong == 0 ? "README.md is right in all " + shown + " calls" : wrong + " are not right in README.md");
        System.exit(wrong == 0 ? 0 : 1);
    }

    private static boolean isTold(String page, Method method) {
        Matcher row = Pattern.compile("\\| `" + method.getName() + "\\(([^)]*)\\)` \\|").matcher(page);
        return row.find() && argumentsOf(row.group(1)).size() == method.getParameterCount();
    }

    private static List<String> argumentsOf(String words) {
        return words.isBlank() ? List.of() : Arrays.asList(words.split(", "));
    }

    private static List<String> walk(String page) throws Exception {
        Matcher found = TEXT.matcher(page);
        String text = found.find() ? found.group(1) : "";
        List<String> called = new ArrayList<>();
        SagGates x = new SagGates();
        for (String line : page.split("\n")) {
            Matcher call = CALL.matcher(line.strip());
            if (line.strip().equals("SagGates x = new SagGates();")) {
                x = new SagGates();
            } else if (line.strip().equals("int n = feedText(x, text);")) {
                Edges.feed(x, text);
            } else if (call.matches()) {
                called.add(call.group(1));
                String answer = answerOf(x, call.group(1), call.group(2).replaceAll("\\bn\\b", "" + text.length()));
                hold(call.group() + " answered " + answer, answer.equals(call.group(3)));
                shown++;
            }
        }
        return called;
    }

    private static String answerOf(SagGates x, String name, String words) throws Exception {
        Object[] numbers = argumentsOf(words).stream().map(word -> (Object) Long.decode(word).intValue()).toArray();
        Class<?>[] types = new Class<?>[numbers.length];
        Arrays.fill(types, int.class);
        try {
            return "" + SagGates.class.getMethod(name, types).invoke(x, numbers);
        } catch (InvocationTargetException e) {
            return "throws " + e.getCause().getClass().getSimpleName();
        }
    }
}
