import java.util.ArrayList;
import java.util.Arrays;
import java.util.HashMap;
import java.util.HashSet;
import java.util.List;
import java.util.Map;
import java.util.Set;

/**
 * The document told a second time, sentence by sentence from its first line, without a thought of
 * speed or room and with nothing taken over from SlotHouse: coins are kept one by one in lists, sales
 * and HOURS are counted under names. SecondTellingTest compares SlotHouse with it, call by call.
 */
final class PlainHouse {
    private static final int[] WORTHS = {500, 200, 100, 50, 20, 10};

    private static final class Lane {
        int good;
        int price;
        int depth;
        int kind;
        int keep;
        int stock;
        int toStick;
        int misses;
        boolean shut;
        boolean spoiled;
    }

    /** Coins are the numbers of their WORTHS. */
    private static final class Machine {
        final List<Lane> lanes = new ArrayList<>();
        final List<Integer> tubes = new ArrayList<>();
        final List<Integer> box = new ArrayList<>();
        final List<Integer> in = new ArrayList<>();
        final List<Integer> came = new ArrayList<>();
        final List<Integer> gone = new ArrayList<>();
        final Map<String, Integer> sales = new HashMap<>();
        final Map<String, Integer> there = new HashMap<>();
        boolean power = true;
        int hoursOff;
        int shrink;
        int waste;
        int sold;
        int filled;
    }

    private final List<Machine> machines = new ArrayList<>();
    private final Map<Integer, Integer> sizes = new HashMap<>();
    private final Map<Integer, Integer> refusals = new HashMap<>();
    private List<Integer> latestChange = List.of();
    private List<Integer> latestLoad = List.of();
    private int hour;
    private int nothingFell;

    // Terms

    private int no(int refusal) {
        refusals.merge(refusal, 1, Integer::sum);
        return refusal;
    }

    private boolean noMachine(int machine) {
        return machine < 0 || machine >= machines.size();
    }

    private boolean noLane(int machine, int lane) {
        return noMachine(machine) || lane < 0 || lane >= machines.get(machine).lanes.size();
    }

    private static boolean noWorth(int worth) {
        return worth < 0 || worth > 5;
    }

    private static boolean noGood(int good) {
        return good < 0 || good > 15;
    }

    private Lane of(int machine, int lane) {
        return machines.get(machine).lanes.get(lane);
    }

    private static int worth(List<Integer> coins) {
        return coins.stream().mapToInt(c -> WORTHS[c]).sum();
    }

    private static int number(List<Integer> coins, int worth) {
        return (int) coins.stream().filter(c -> c == worth).count();
    }

    private static boolean nextServes(Machine m, int lane) {
        if (m.lanes.get(lane).kind != 3 || m.lanes.get(lane).stock != 0 || lane + 1 >= m.lanes.size()) {
            return false;
        }
        Lane next = m.lanes.get(lane + 1);
        return next.good == m.lanes.get(lane).good && next.stock > 0 && !next.shut && !next.spoiled;
    }

    private static boolean sells(Machine m, int lane) {
        Lane l = m.lanes.get(lane);
        boolean hasSome = l.stock > 0 || nextServes(m, lane);
        return hasSome && !l.shut && !(l.kind == 2 && l.spoiled);
    }

    private static List<Integer> together(List<Integer> some, List<Integer> more) {
        List<Integer> all = new ArrayList<>(some);
        all.addAll(more);
        return all;
    }

    /**
     * The coins of the CHANGE, or null: for each sum the best way by the WORTHS looked at so far; of
     * two ways to one sum the worse one can't become the better one by the smaller coins to come.
     */
    private static List<Integer> fewest(Machine m, int v) {
        List<Integer> coins = together(m.tubes, m.in);
        Map<Integer, int[]> ways = new HashMap<>();
        ways.put(0, new int[6]);
        for (int w = 0; w < 6; w++) {
            Map<Integer, int[]> longer = new HashMap<>();
            int held = number(coins, w);
            for (Map.Entry<Integer, int[]> way : ways.entrySet()) {
                for (int k = 0; k <= held && way.getKey() + k * WORTHS[w] <= v; k++) {
                    int[] with = way.getValue().clone();
                    with[w] = k;
                    longer.merge(way.getKey() + k * WORTHS[w], with, PlainHouse::better);
                }
            }
            ways = longer;
        }
        if (!ways.containsKey(v)) {
            return null;
        }
        List<Integer> change = new ArrayList<>();
        for (int w = 0; w < 6; w++) {
            for (int k = 0; k < ways.get(v)[w]; k++) {
                change.add(w);
            }
        }
        return change;
    }

    private static int[] better(int[] one, int[] other) {
        int less = Arrays.stream(one).sum() - Arrays.stream(other).sum();
        if (less != 0) {
            return less < 0 ? one : other;
        }
        int differ = Arrays.mismatch(one, other);
        return differ < 0 || one[differ] > other[differ] ? one : other;
    }

    private void anHourPasses() {
        int over = hour % 24;
        hour++;
        for (Machine m : machines) {
            Set<Integer> goods = new HashSet<>();
            for (int lane = 0; lane < m.lanes.size(); lane++) {
                if (sells(m, lane)) {
                    goods.add(m.lanes.get(lane).good);
                }
            }
            for (int good : goods) {
                m.there.merge(good + " at " + over, 1, Integer::sum);
            }
            if (!m.power) {
                m.hoursOff++;
            }
            for (Lane l : m.lanes) {
                l.spoiled |= l.kind == 2 && l.stock > 0 && m.hoursOff > l.keep;
            }
        }
    }

    private int foretold(Machine m, int good, int n) {
        int sum = 0;
        for (int h = hour; h < hour + n; h++) {
            int there = m.there.getOrDefault(good + " at " + h % 24, 0);
            if (there != 0) {
                sum += 1000 * m.sales.getOrDefault(good + " at " + h % 24, 0) / there;
            }
        }
        return sum;
    }

    // Promises 2 to 9

    int machine() {
        if (machines.size() == 6) {
            return no(-6);
        }
        machines.add(new Machine());
        return machines.size() - 1;
    }

    int lane(int machine, int good, int price, int depth, int kind, int keep) {
        if (noMachine(machine) || noGood(good)) {
            return no(-1);
        }
        if (!List.of(0, 1, 2, 3).contains(kind)) {
            return no(-2);
        }
        if (price < 10 || price % 10 != 0 || depth < 1 || kind == 2 && keep < 0) {
            return no(-4);
        }
        if (price > 5000 || depth > 20 || kind == 2 && keep > 48 || machines.get(machine).lanes.size() == 8) {
            return no(-6);
        }
        Lane l = new Lane();
        l.good = good;
        l.price = price;
        l.depth = depth;
        l.kind = kind;
        l.keep = keep;
        machines.get(machine).lanes.add(l);
        return machines.get(machine).lanes.size() - 1;
    }

    int size(int good, int v) {
        if (noGood(good)) {
            return no(-1);
        }
        if (v < 1 || v > 9) {
            return no(v < 1 ? -4 : -6);
        }
        int was = sizes.getOrDefault(good, 1);
        sizes.put(good, v);
        return was;
    }

    int price(int machine, int lane, int v) {
        if (noLane(machine, lane)) {
            return no(-1);
        }
        if (v < 10 || v % 10 != 0) {
            return no(-4);
        }
        if (v > 5000) {
            return no(-6);
        }
        int was = of(machine, lane).price;
        of(machine, lane).price = v;
        return was;
    }

    int tube(int machine, int worth, int n) {
        if (noMachine(machine) || noWorth(worth)) {
            return no(-1);
        }
        Machine m = machines.get(machine);
        if (n < 0) {
            return no(-4);
        }
        if ((long) number(m.tubes, worth) + n > 50) {
            return no(-6);
        }
        for (int i = 0; i < n; i++) {
            m.tubes.add(worth);
            m.came.add(worth);
        }
        return number(m.tubes, worth);
    }

    int stick(int machine, int lane, int n) {
        if (noLane(machine, lane)) {
            return no(-1);
        }
        Lane l = of(machine, lane);
        if (l.kind != 1) {
            return no(-2);
        }
        if (n < 0) {
            return no(-4);
        }
        if ((long) l.toStick + n > 9) {
            return no(-6);
        }
        l.toStick += n;
        return l.toStick;
    }

    boolean shut(int machine, int lane, boolean on) {
        if (noLane(machine, lane) || of(machine, lane).shut == on) {
            return false;
        }
        of(machine, lane).shut = on;
        of(machine, lane).misses = on ? of(machine, lane).misses : 0;
        return true;
    }

    boolean power(int machine, boolean on) {
        if (noMachine(machine) || machines.get(machine).power == on) {
            return false;
        }
        machines.get(machine).power = on;
        machines.get(machine).hoursOff = 0;
        return true;
    }

    // Promises 10 to 12

    int fill(int machine, int lane, int n) {
        if (noLane(machine, lane)) {
            return no(-1);
        }
        Lane l = of(machine, lane);
        if (l.spoiled) {
            return no(-3);
        }
        if (n < 0) {
            return no(-4);
        }
        if ((long) l.stock + n > l.depth) {
            return no(-6);
        }
        machines.get(machine).filled += n;
        l.stock += n;
        return l.stock;
    }

    int found(int machine, int lane, int n) {
        if (noLane(machine, lane)) {
            return no(-1);
        }
        if (n < 0) {
            return no(-4);
        }
        if (n > of(machine, lane).depth) {
            return no(-6);
        }
        int was = of(machine, lane).stock;
        machines.get(machine).shrink += was - n;
        of(machine, lane).stock = n;
        return was;
    }

    int empty(int machine, int lane) {
        if (noLane(machine, lane)) {
            return no(-1);
        }
        int had = of(machine, lane).stock;
        machines.get(machine).waste += had;
        of(machine, lane).stock = 0;
        of(machine, lane).spoiled = false;
        return had;
    }

    // Promises 13 to 17

    int insert(int machine, int worth) {
        if (noMachine(machine) || noWorth(worth)) {
            return no(-1);
        }
        Machine m = machines.get(machine);
        if (m.in.size() == 20) {
            return no(-6);
        }
        m.in.add(worth);
        m.came.add(worth);
        return worth(m.in);
    }

    int back(int machine) {
        if (noMachine(machine)) {
            return no(-1);
        }
        Machine m = machines.get(machine);
        int worth = worth(m.in);
        m.gone.addAll(m.in);
        m.in.clear();
        return worth;
    }

    int choose(int machine, int lane) {
        if (noLane(machine, lane)) {
            return no(-1);
        }
        Machine m = machines.get(machine);
        Lane chosen = of(machine, lane);
        if (!sells(m, lane)) {
            return no(-3);
        }
        if (worth(m.in) < chosen.price) {
            return no(-5);
        }
        List<Integer> change = fewest(m, worth(m.in) - chosen.price);
        if (change == null) {
            return no(-6);
        }
        if (chosen.kind == 1 && chosen.toStick > 0) {
            chosen.toStick--;
            chosen.misses++;
            chosen.shut = chosen.misses == 3;
            nothingFell++;
            back(machine);
            return -7;
        }
        Lane from = chosen.stock > 0 ? chosen : of(machine, lane + 1);
        from.stock--;
        chosen.misses = 0;
        m.sold++;
        m.sales.merge(chosen.good + " at " + hour % 24, 1, Integer::sum);
        pay(m, change);
        return worth(change);
    }

    private void pay(Machine m, List<Integer> change) {
        m.tubes.addAll(m.in);
        m.in.clear();
        for (Integer coin : change) {
            m.tubes.remove(coin);
        }
        m.gone.addAll(change);
        for (Integer w = 0; w < 6; w++) {
            while (number(m.tubes, w) > 50) {
                m.tubes.remove(w);
                m.box.add(w);
            }
        }
        latestChange = change;
    }

    int given(int worth) {
        return noWorth(worth) ? no(-1) : number(latestChange, worth);
    }

    int change(int machine, int v) {
        if (noMachine(machine)) {
            return no(-1);
        }
        if (v < 0 || v > 20000) {
            return no(v < 0 ? -4 : -6);
        }
        List<Integer> coins = fewest(machines.get(machine), v);
        return coins == null ? -9 : coins.size();
    }

    // Promises 18 to 23

    int hours(int n) {
        if (n < 1) {
            return no(-4);
        }
        if ((long) hour + n > 3000) {
            return no(-6);
        }
        for (int i = 0; i < n; i++) {
            anHourPasses();
        }
        return hour;
    }

    int counted(int machine, int good, int hour, int what) {
        if (noMachine(machine) || noGood(good)) {
            return no(-1);
        }
        if (what < 0 || what > 1) {
            return no(-2);
        }
        if (hour < 0 || hour > 23) {
            return no(hour < 0 ? -4 : -6);
        }
        Machine m = machines.get(machine);
        return (what == 0 ? m.sales : m.there).getOrDefault(good + " at " + hour, 0);
    }

    int foretell(int machine, int good, int n) {
        if (noMachine(machine) || noGood(good)) {
            return no(-1);
        }
        if (n < 0 || n > 240) {
            return no(n < 0 ? -4 : -6);
        }
        return foretold(machines.get(machine), good, n);
    }

    int when(int machine, int lane) {
        if (noLane(machine, lane)) {
            return no(-1);
        }
        Machine m = machines.get(machine);
        int good = of(machine, lane).good;
        int stock = m.lanes.stream().filter(l -> l.good == good).mapToInt(l -> l.stock).sum();
        if (stock == 0) {
            return 0;
        }
        for (int n = 1; n <= 240; n++) {
            if (foretold(m, good, n) >= 1000 * stock) {
                return n;
            }
        }
        return -9;
    }

    /** A way of loading: pieces by LANE, their worth and the room that they take. */
    private record Load(List<Integer> pieces, int worth, int room) {
        Load with(int k, int price, int size) {
            return new Load(together(pieces, List.of(k)), worth + k * price, room + k * size);
        }

        boolean isBetterThan(Load other) {
            if (worth != other.worth) {
                return worth > other.worth;
            }
            if (room != other.room) {
                return room < other.room;
            }
            for (int i = 0; i < pieces.size(); i++) {
                if (!pieces.get(i).equals(other.pieces.get(i))) {
                    return pieces.get(i) > other.pieces.get(i);
                }
            }
            return false;
        }
    }

    int load(int machine, int room) {
        if (noMachine(machine)) {
            return no(-1);
        }
        if (room < 0 || room > 200) {
            return no(room < 0 ? -4 : -6);
        }
        Map<Integer, Load> ways = new HashMap<>();
        ways.put(0, new Load(List.of(), 0, 0));
        for (Lane l : machines.get(machine).lanes) {
            Map<Integer, Load> longer = new HashMap<>();
            int most = l.shut || l.spoiled ? 0 : l.depth - l.stock;
            int size = sizes.getOrDefault(l.good, 1);
            for (Load way : ways.values()) {
                for (int k = 0; k <= most && way.room + k * size <= room; k++) {
                    Load with = way.with(k, l.price, size);
                    longer.merge(with.room, with, (a, b) -> a.isBetterThan(b) ? a : b);
                }
            }
            ways = longer;
        }
        Load best = ways.values().stream().reduce((a, b) -> a.isBetterThan(b) ? a : b).orElseThrow();
        latestLoad = best.pieces;
        return best.worth;
    }

    int loaded(int lane) {
        if (lane < 0) {
            return no(-4);
        }
        return lane < latestLoad.size() ? latestLoad.get(lane) : 0;
    }

    // Promises 24 to 29

    int laneOf(int machine, int lane, int what) {
        if (noLane(machine, lane)) {
            return no(-1);
        }
        if (what < 0 || what > 8) {
            return no(-2);
        }
        Lane l = of(machine, lane);
        int sells = sells(machines.get(machine), lane) ? 1 : 0;
        return List.of(l.good, l.price, l.depth, l.stock, l.kind, l.shut ? 1 : 0, l.misses, l.spoiled ? 1 : 0, sells).get(what);
    }

    int machineOf(int machine, int what) {
        if (noMachine(machine)) {
            return 1000000000 - no(-1);
        }
        if (what < 0 || what > 8) {
            return 1000000000 - no(-2);
        }
        Machine m = machines.get(machine);
        return List.of(m.lanes.size(), worth(m.tubes), worth(m.box), worth(m.in), m.shrink, m.waste, m.sold, m.filled, m.hoursOff).get(what);
    }

    int tubeOf(int machine, int worth) {
        return noMachine(machine) || noWorth(worth) ? no(-1) : number(machines.get(machine).tubes, worth);
    }

    int collect(int machine) {
        if (noMachine(machine)) {
            return no(-1);
        }
        Machine m = machines.get(machine);
        int worth = worth(m.box);
        m.gone.addAll(m.box);
        m.box.clear();
        return worth;
    }

    boolean check(int machine) {
        if (noMachine(machine)) {
            return false;
        }
        Machine m = machines.get(machine);
        int inLanes = m.lanes.stream().mapToInt(l -> l.stock).sum();
        List<Integer> known = together(together(m.tubes, m.box), together(m.in, m.gone));
        boolean coins = true;
        for (int w = 0; w < 6; w++) {
            coins &= number(m.came, w) == number(known, w);
        }
        return coins && m.filled == m.sold + inLanes + m.waste + m.shrink;
    }

    int count(int what) {
        if (what >= 11 && what <= 16) {
            return refusals.getOrDefault(10 - what, 0);
        }
        return switch (what) {
            case 0 -> hour;
            case 1 -> machines.size();
            case 2 -> machines.stream().mapToInt(m -> m.sold).sum();
            case 3 -> nothingFell;
            default -> -9;
        };
    }
}
