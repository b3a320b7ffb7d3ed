import java.io.IOException;
import java.lang.reflect.Method;
import java.nio.file.Files;
import java.nio.file.Path;
import java.util.Set;
import java.util.TreeSet;
import java.util.regex.Matcher;
import java.util.regex.Pattern;

/** The calls that README.md shows are made, and answer what it tells behind them. */
public final class ReadmeTest {
    private static final Due DUE = new Due();
    private static final Pattern CALL = Pattern.compile(" {4}x\\.(\\w+)\\((.*)\\); *// (-?\\d+)\\b.*");
    /** Making one, telling a THING and a PATH, looking, changing, undoing. */
    private static final Set<String> SHOWN = Set.of("new", "feed", "thing", "path", "look", "over", "undo");

    public static void main(String[] args) throws IOException, ReflectiveOperationException {
        Set<String> shown = new TreeSet<>();
        NestedFoci x = null;
        for (String line : Files.readAllLines(Path.of("README.md"))) {
            Matcher call = CALL.matcher(line);
            if (line.strip().equals("NestedFoci x = new NestedFoci();")) {
                x = new NestedFoci();
                shown.add("new");
            } else if (call.matches() && x != null) {
                DUE.is(line.strip(), ask(x, call.group(1), call.group(2)), Long.parseLong(call.group(3)));
                shown.add(call.group(1));
            } else {
                DUE.is("told without an answer: " + line, line.strip().startsWith("x.") ? 1 : 0, 0);
            }
        }
        DUE.is("README.md shows " + SHOWN + ", has " + shown, shown.containsAll(SHOWN) ? 1 : 0, 1);
        DUE.end();
    }

    private static long ask(NestedFoci x, String name, String told) throws ReflectiveOperationException {
        String[] words = told.isEmpty() ? new String[0] : told.split(", ");
        Object[] numbers = new Object[words.length];
        for (int i = 0; i < words.length; i++) {
            numbers[i] = words[i].startsWith("'") ? (int) words[i].charAt(1) : Integer.decode(words[i]);
        }
        for (Method m : NestedFoci.class.getMethods()) {
            if (m.getName().equals(name) && m.getParameterCount() == numbers.length) {
                return ((Number) m.invoke(x, numbers)).longValue();
            }
        }
        throw new NoSuchMethodException(name + " of " + numbers.length + " numbers");
    }
}
