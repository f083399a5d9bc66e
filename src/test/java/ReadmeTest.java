import java.io.IOException;
import java.lang.reflect.InvocationTargetException;
import java.lang.reflect.Method;
import java.nio.file.Files;
import java.nio.file.Path;
import java.util.Arrays;
import java.util.HashSet;
import java.util.List;
import java.util.Set;
import java.util.regex.Matcher;
import java.util.regex.Pattern;

/** The run of calls in README.md: each answer that stands there is the one that the class gives. */
public final class ReadmeTest {
    private static final String BEGIN = "BottleReturn machine = new BottleReturn();";
    private static final String END = "```";
    private static final Pattern CALL =
        Pattern.compile("machine\\.(\\w+)\\(([^)]*)\\);\\s*// ([^:]+?)(: .*)?");

    public static void main(String[] args) throws IOException {
        List<String> lines = Files.readAllLines(Path.of("README.md"));
        int line = lines.indexOf(BEGIN) + 1;
        Bench.yes("README.md has a run", line > 0);
        BottleReturn machine = new BottleReturn();
        Set<String> called = new HashSet<>();
        while (line < lines.size() && !lines.get(line).equals(END)) {
            called.add(compare(machine, lines.get(line)));
            line++;
        }
        Bench.yes("the run has most of the face: " + called, called.size() >= 16);
        Bench.end();
    }

    /** The name of the call. */
    private static String compare(BottleReturn machine, String line) {
        Matcher told = CALL.matcher(line);
        if (!told.matches()) {
            Bench.fault("no call with an answer: " + line);
            return "";
        }
        String got = answer(machine, told.group(1), numbers(told.group(2)));
        Bench.yes(line + " (it is " + got + ")", got.equals(told.group(3)));
        return told.group(1);
    }

    private static Object[] numbers(String told) {
        if (told.isEmpty()) {
            return new Object[0];
        }
        return Arrays.stream(told.split(", ")).map(Integer::decode).toArray();
    }

    private static String answer(BottleReturn machine, String name, Object[] numbers) {
        try {
            Method method = method(name);
            Object got = method.invoke(machine, numbers);
            return method.getReturnType() == void.class ? "nothing" : got.toString();
        } catch (InvocationTargetException e) {
            return "throws " + e.getCause().getClass().getSimpleName();
        } catch (IllegalAccessException e) {
            throw new AssertionError(e);
        }
    }

    private static Method method(String name) {
        for (Method method : BottleReturn.class.getMethods()) {
            if (method.getName().equals(name)) {
                return method;
            }
        }
        throw new AssertionError(name);
    }
}
