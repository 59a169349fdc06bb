import java.lang.reflect.Method;
import java.lang.reflect.Modifier;
import java.nio.file.Files;
import java.nio.file.Path;
import java.util.ArrayList;
import java.util.List;
import java.util.regex.Matcher;
import java.util.regex.Pattern;

/** Makes the runs of calls that README.md tells, and looks that it names every call. */
public final class ReadmeTest {
    private static final Pattern TAPE = Pattern.compile("tape\\(x, \"(.*)\"\\);");
    private static final Pattern CALL = Pattern.compile("x\\.(\\w+)\\((.*?)\\);\\s*// (true|false|-?\\d+)\\b.*");

    private static int wrong;
    private static int checks;

    public static void main(String[] args) throws Exception {
        List<String> page = Files.readAllLines(Path.of("README.md"));
        List<String> code = codeOf(page);
        runCalls(code);
        holdHelpers(code);
        holdNames(page);
        System.out.println(checks + " checks of README.md, " + wrong + " wrong");
        System.exit(wrong == 0 && checks > 0 ? 0 : 1);
    }

    static void tape(SaidShallow x, String text) {
        x.end(0);
        for (int i = 0; i < text.length(); i += 20) {
            x.feed(four(text, i), four(text, i + 4), four(text, i + 8), four(text, i + 12), four(text, i + 16));
        }
        x.end(text.length());
    }

    static int four(String text, int from) {
        int number = 0;
        for (int i = from; i < from + 4; i++) {
            number = number << 8 | (i < text.length() ? text.charAt(i) : ' ');
        }
        return number;
    }

    private static void hold(boolean isRight, String what) {
        checks++;
        if (!isRight) {
            wrong++;
            System.out.println(what);
        }
    }

    private static List<String> codeOf(List<String> page) {
        List<String> code = new ArrayList<>();
        boolean isCode = false;
        for (String line : page) {
            if (line.startsWith("```")) {
                isCode = line.equals("```java");
            } else if (isCode) {
                code.add(line);
            }
        }
        return code;
    }

    private static void runCalls(List<String> code) throws Exception {
        SaidShallow x = new SaidShallow();
        for (String line : code) {
            Matcher told = TAPE.matcher(line);
            if (line.equals("SaidShallow x = new SaidShallow();")) {
                x = new SaidShallow();
            } else if (told.matches()) {
                tape(x, told.group(1));
            } else if (line.startsWith("x.")) {
                runCall(x, line);
            }
        }
    }

    private static void runCall(SaidShallow x, String line) throws Exception {
        Matcher call = CALL.matcher(line);
        if (!call.matches()) {
            hold(false, "no call with its answer: " + line);
            return;
        }
        String[] given = call.group(2).isEmpty() ? new String[0] : call.group(2).split(", ");
        for (Method method : SaidShallow.class.getDeclaredMethods()) {
            if (method.getName().equals(call.group(1)) && method.getParameterCount() == given.length) {
                Object got = method.invoke(x, valuesOf(method, given));
                hold(got.toString().equals(call.group(3)), line + " answered " + got);
                return;
            }
        }
        hold(false, "no such call: " + line);
    }

    private static Object[] valuesOf(Method method, String[] given) {
        Object[] values = new Object[given.length];
        for (int i = 0; i < given.length; i++) {
            boolean isNumber = method.getParameterTypes()[i] == int.class;
            values[i] = isNumber ? (Object) Integer.valueOf(given[i]) : Boolean.valueOf(given[i]);
        }
        return values;
    }

    /** The page's own methods are those by which the runs above are made. */
    private static void holdHelpers(List<String> code) throws Exception {
        String own = Files.readString(Path.of("src/test/java/ReadmeTest.java"));
        for (String line : code) {
            boolean isRun = line.startsWith("x.") || line.startsWith("tape(") || line.startsWith("SaidShallow x");
            if (!isRun && !line.isEmpty()) {
                hold(own.contains("\n    " + line + "\n"), "not as it is run: " + line);
            }
        }
    }

    private static void holdNames(List<String> page) {
        for (Method method : SaidShallow.class.getDeclaredMethods()) {
            if (Modifier.isPublic(method.getModifiers())) {
                int rows = 0;
                for (String line : page) {
                    rows += line.startsWith("| `" + method.getName() + "(") ? 1 : 0;
                }
                hold(rows == 1, method.getName() + " has " + rows + " rows");
            }
        }
    }
}
