import java.io.IOException;
import java.lang.reflect.InvocationTargetException;
import java.lang.reflect.Method;
import java.nio.file.Files;
import java.nio.file.Path;
import java.util.List;
import java.util.regex.Matcher;
import java.util.regex.Pattern;

/** The calls in README.md answer what is written beside them. Run where README.md stands. */
public final class ReadmeTest {
    private static final Pattern CALL =
        Pattern.compile("grove\\.(\\w+)\\(([\\d, ]*)\\); +// (answers|throws) (?:Alarmgrove\\.)?(\\w+).*");
    private static final int LEAST_CALLS = 20;

    private static final Check CHECK = new Check();

    public static void main(String[] args) throws IOException, ReflectiveOperationException {
        Alarmgrove grove = new Alarmgrove();
        int calls = 0;
        for (String line : Files.readAllLines(Path.of("README.md"))) {
            if (line.startsWith("grove.")) {
                calls++;
                dueAsWritten(grove, line);
            }
        }
        CHECK.due("several calls are shown", calls >= LEAST_CALLS, true);
        CHECK.end("ReadmeTest");
    }

    private static void dueAsWritten(Alarmgrove grove, String line) throws ReflectiveOperationException {
        Matcher call = CALL.matcher(line);
        CHECK.due(line + " is a call with its answer", call.matches(), true);
        if (call.matches()) {
            String want = call.group(3).equals("throws") ? "throws." + call.group(4) : value(call.group(4));
            CHECK.due(line, outcome(grove, call.group(1), call.group(2)), want);
        }
    }

    /** A constant's value; other words as they are. */
    private static String value(String word) throws ReflectiveOperationException {
        boolean isConstant = word.equals(word.toUpperCase()) && Character.isLetter(word.charAt(0));
        return isConstant ? String.valueOf(Alarmgrove.class.getField(word).get(null)) : word;
    }

    private static String outcome(Alarmgrove grove, String name, String list) throws ReflectiveOperationException {
        List<String> words = list.isEmpty() ? List.of() : List.of(list.split(", "));
        Class<?>[] types = new Class<?>[words.size()];
        Object[] values = new Object[words.size()];
        for (int place = 0; place < types.length; place++) {
            types[place] = int.class;
            values[place] = Integer.valueOf(words.get(place));
        }
        Method method = Alarmgrove.class.getMethod(name, types);
        try {
            return String.valueOf(method.invoke(grove, values));
        } catch (InvocationTargetException e) {
            return "throws." + e.getCause().getClass().getSimpleName();
        }
    }
}
