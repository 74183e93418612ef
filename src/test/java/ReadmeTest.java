import java.io.IOException;
import java.nio.file.Files;
import java.nio.file.Path;
import java.util.ArrayList;
import java.util.HashMap;
import java.util.List;
import java.util.Map;
import java.util.TreeSet;
import java.util.regex.Matcher;
import java.util.regex.Pattern;

/** The calls that README.md shows are made as they stand there, and answer what it tells. */
public final class ReadmeTest {
    private static final Pattern BLOCK = Pattern.compile("(?s)```java\n(.*?)```");
    private static final Pattern CALL =
        Pattern.compile("(?:int (\\w+) = )?house\\.(\\w+)\\(([^)]*)\\);\\s+// (-?\\d+|true|false)(?:: .*)?");
    private static final Due due = new Due("ReadmeTest");

    private SlotHouse house;
    private final Map<String, Integer> names = new HashMap<>();
    private final TreeSet<String> shown = new TreeSet<>();

    public static void main(String[] args) throws IOException, ReflectiveOperationException {
        ReadmeTest test = new ReadmeTest();
        Matcher blocks = BLOCK.matcher(Files.readString(Path.of("README.md")));
        while (blocks.find()) {
            for (String line : blocks.group(1).split("\n")) {
                test.make(line);
            }
        }
        for (String method : Face.METHODS) {
            due.is(Face.nameOf(method) + " is shown", test.shown.contains(Face.nameOf(method)), true);
        }
        due.end();
    }

    private void make(String line) throws ReflectiveOperationException {
        if (line.equals("SlotHouse house = new SlotHouse();")) {
            house = new SlotHouse();
            return;
        }
        Matcher call = CALL.matcher(line);
        boolean isCall = house != null && call.matches() && Face.named(call.group(2)) != null;
        due.is("'" + line + "' is a call with its answer", isCall, true);
        if (!isCall) {
            return;
        }
        int got = Face.call(house, call.group(2), arguments(call.group(3)));
        due.is("'" + line + "'", got, value(call.group(4)));
        shown.add(call.group(2));
        if (call.group(1) != null) {
            names.put(call.group(1), got);
        }
    }

    private Object[] arguments(String text) {
        List<Object> all = new ArrayList<>();
        for (String argument : text.isEmpty() ? new String[0] : text.split(", ")) {
            boolean told = argument.equals("true") || argument.equals("false");
            all.add(told ? (Object) Boolean.valueOf(argument) : names.containsKey(argument) ? names.get(argument) : (Object) value(argument));
        }
        return all.toArray();
    }

    private static int value(String text) {
        return text.equals("true") ? 1 : text.equals("false") ? 0 : Integer.parseInt(text);
    }
}
