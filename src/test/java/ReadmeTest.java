import java.io.IOException;
import java.lang.reflect.Method;
import java.nio.file.Files;
import java.nio.file.Path;
import java.util.ArrayList;
import java.util.Arrays;
import java.util.HashSet;
import java.util.List;
import java.util.Set;
import java.util.regex.Matcher;
import java.util.regex.Pattern;

/** README.md: each call that stands in it with its answer, made on one object in the order in which they stand. */
public final class ReadmeTest {
    private static final Pattern CALL = Pattern.compile("^night\\.(\\w+)\\((.*)\\);\\s*// (-?\\d+)(:.*)?$");
    private static final Pattern TOLD = Pattern.compile("^String told = \"(.*)\";$");

    public static void main(String[] args) throws IOException, ReflectiveOperationException {
        WaitOrWalkOn night = new WaitOrWalkOn();
        Set<String> called = new HashSet<>();
        for (String row : Files.readAllLines(Path.of("README.md"))) {
            Matcher told = TOLD.matcher(row);
            Matcher call = CALL.matcher(row);
            if (told.matches()) {
                told.group(1).chars().forEach(night::letter);
            } else if (call.matches()) {
                called.add(call.group(1));
                Due.is(row, answer(night, call.group(1), call.group(2)), Long.parseLong(call.group(3)));
            } else {
                Due.is("no answer stands behind: " + row, row.startsWith("night.") ? 1 : 0, 0);
            }
        }
        for (String name : List.of("letter", "road", "homeAt", "mean", "best", "bestMean", "judge", "on", "count")) {
            Due.is(name + " is shown", called.contains(name) ? 1 : 0, 1);
        }
        Due.end();
    }

    private static long answer(WaitOrWalkOn night, String name, String with) throws ReflectiveOperationException {
        List<Object> numbers = new ArrayList<>();
        for (String part : with.isEmpty() ? new String[0] : with.split(", ")) {
            numbers.add(part.startsWith("'") ? (int) part.charAt(1) : Integer.parseInt(part));
        }
        Class<?>[] ints = new Class<?>[numbers.size()];
        Arrays.fill(ints, int.class);
        Method m = WaitOrWalkOn.class.getMethod(name, ints);
        return ((Number) m.invoke(night, numbers.toArray())).longValue();
    }
}
