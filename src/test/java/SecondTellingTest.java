import java.util.ArrayList;
import java.util.Arrays;
import java.util.List;
import java.util.Map;
import java.util.Random;
import java.util.TreeMap;
import java.util.TreeSet;

/**
 * Promises 1 to 29 and the Terms, all together: random runs of 512 calls in which every answer of
 * SlotHouse is compared with that of PlainHouse, the document's second telling.
 */
public final class SecondTellingTest {
    private static final int CALLS = 512;
    private static final int RUNS = 600;
    private static final int[] WILD = {Integer.MIN_VALUE, -1000000000, -10, -1, 0, 1, 2, 5, 6, 7, 8, 9, 10, 15, 16, 19,
        20, 21, 23, 24, 25, 48, 49, 50, 51, 200, 201, 240, 241, 3000, 3001, 5000, 5010, 20000, 20001, Integer.MAX_VALUE};
    private static final Map<String, String> REFUSALS = refusals();
    private static final List<String> OFTEN = List.of("fill", "insert", "insert", "insert", "choose", "choose",
        "choose", "choose", "hours", "power", "tube", "stick", "load", "loaded", "laneOf");
    private static final Due due = new Due("SecondTellingTest");
    private static final Map<String, TreeSet<Integer>> below0 = new TreeMap<>();

    public static void main(String[] args) throws ReflectiveOperationException {
        for (int seed = 0; seed < RUNS; seed++) {
            run(seed);
        }
        everyRefusalWasMet();
        due.end();
    }

    /** What each call may answer below 0, as its promise tells. */
    private static Map<String, String> refusals() {
        Map<String, String> all = new TreeMap<>();
        String told = "machine -6; lane -6 -4 -2 -1; size -6 -4 -1; price -6 -4 -1; tube -6 -4 -1; stick -6 -4 -2 -1;"
            + " fill -6 -4 -3 -1; found -6 -4 -1; empty -1; insert -6 -1; back -1; choose -7 -6 -5 -3 -1; given -1;"
            + " change -9 -6 -4 -1; hours -6 -4; counted -6 -4 -2 -1; foretell -6 -4 -1; when -9 -1; load -6 -4 -1;"
            + " loaded -4; laneOf -2 -1; tubeOf -1; collect -1; count -9";
        for (String call : told.split("; ")) {
            all.put(call.substring(0, call.indexOf(' ')), call.substring(call.indexOf(' ') + 1).replace(" ", ", "));
        }
        return all;
    }

    private static void everyRefusalWasMet() {
        for (String method : Face.METHODS) {
            String name = Face.nameOf(method);
            if (!name.equals("machineOf")) {
                String met = below0.getOrDefault(name, new TreeSet<>()).toString();
                String want = "[" + REFUSALS.getOrDefault(name, "") + "]";
                due.is(name + " answered below 0: " + met + ", the document tells " + want, met.equals(want), true);
            }
        }
    }

    private static void run(int seed) throws ReflectiveOperationException {
        Random random = new Random(seed);
        SlotHouse house = new SlotHouse();
        PlainHouse plain = new PlainHouse();
        int machines = 1 + random.nextInt(random.nextInt(3) == 0 ? 6 : 2);
        int lanes = 1 + random.nextInt(8);
        int wild = List.of(4, 30, 300).get(seed % 3);
        for (int i = 0; i < CALLS; i++) {
            String name = i < machines ? "machine" : i < machines + machines * lanes ? "lane" : anyName(random);
            Object[] arguments = arguments(random, name, machines, wild);
            int want = Face.call(plain, name, arguments);
            int got = Face.call(house, name, arguments);
            due.is("run " + seed + ", call " + i + ", " + name + Arrays.toString(arguments), got, want);
            if (got != want) {
                return; // from here on the two are not in the same state
            }
            if (got < 0 && !name.equals("machineOf")) {
                below0.computeIfAbsent(name, n -> new TreeSet<>()).add(got);
            }
        }
    }

    private static String anyName(Random random) {
        return random.nextInt(2) == 0 ? OFTEN.get(random.nextInt(OFTEN.size()))
            : Face.nameOf(Face.METHODS.get(random.nextInt(Face.METHODS.size())));
    }

    private static Object[] arguments(Random random, String name, int machines, int wild) {
        List<Object> all = new ArrayList<>();
        for (String parameter : Face.parametersOf(Face.named(name))) {
            if (parameter.startsWith("boolean")) {
                all.add(random.nextBoolean());
            } else if (random.nextInt(wild) == 0) {
                all.add(WILD[random.nextInt(WILD.length)]);
            } else {
                all.add(ordinary(random, name, parameter.substring(4), machines));
            }
        }
        return all.toArray();
    }

    private static int ordinary(Random random, String method, String parameter, int machines) {
        switch (parameter) {
            case "machine": return random.nextInt(machines);
            case "lane": return random.nextInt(1 + random.nextInt(8));
            case "good": return random.nextInt(3);
            case "price": return price(random);
            case "depth": return 1 + random.nextInt(random.nextInt(4) == 0 ? 20 : 5);
            case "kind": return random.nextInt(4);
            case "keep": return random.nextInt(random.nextInt(4) == 0 ? 49 : 4);
            case "worth": return random.nextInt(6);
            case "hour": return random.nextInt(24);
            case "room": return random.nextInt(random.nextInt(4) == 0 ? 201 : 30);
            case "what": return what(random, method);
            case "v": return v(random, method);
            default: return n(random, method);
        }
    }

    /** Few PRICES, so that several ways of a LOAD are worth the same. */
    private static int price(Random random) {
        return random.nextInt(10) == 0 ? 10 * (1 + random.nextInt(500)) : 10 * (1 + random.nextInt(12));
    }

    private static int what(Random random, String method) {
        if (method.equals("count")) {
            return random.nextInt(18);
        }
        return random.nextInt(method.equals("counted") ? 2 : 9);
    }

    private static int v(Random random, String method) {
        if (method.equals("price")) {
            return price(random);
        }
        return method.equals("size") ? 1 + random.nextInt(9) : 10 * random.nextInt(random.nextInt(8) == 0 ? 2001 : 100);
    }

    private static int n(Random random, String method) {
        switch (method) {
            case "tube": return random.nextInt(random.nextInt(4) == 0 ? 50 : 6);
            case "stick": return random.nextInt(4);
            case "hours": return 1 + random.nextInt(random.nextInt(6) == 0 ? 80 : 4);
            case "foretell": return random.nextInt(random.nextInt(2) == 0 ? 241 : 30);
            default: return random.nextInt(6);
        }
    }
}
