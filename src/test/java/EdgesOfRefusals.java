import java.util.Map;
import java.util.function.ToLongFunction;

/**
 * Terms: REFUSALS. Each REFUSAL of each call, and wherever two fit, the one that the promise tells
 * first; after it the house tells all that it told before, but for how many there were.
 */
final class EdgesOfRefusals {
    private static final int MIN = Integer.MIN_VALUE;
    private static final int MAX = Integer.MAX_VALUE;
    private static final int NO_MACHINE = 6;
    private static final int[] NO_NUMBER = {-1, MIN, MAX};

    private static final Map<String, Long> UNTOUCHED = RichHouse.tell(RichHouse.make());
    private static Edges edges;
    private static int promise;

    private EdgesOfRefusals() {
    }

    static void run(Edges e) {
        edges = e;
        theNumbers();
        machineAndLane();
        laneBelowAndAbove();
        sizeAndPrice();
        tubeAndStick();
        fillFoundEmpty();
        insertBackGiven();
        choose();
        changeAndHours();
        countedForetellWhen();
        loadAndLoaded();
        telling();
        falseChangesNothing();
        noRefusalIsCounted();
    }

    private static void of(int number, String quote) {
        promise = number;
        edges.sentence(number, quote);
    }

    private static void refused(int want, String call, ToLongFunction<SlotHouse> asked) {
        SlotHouse h = RichHouse.make();
        long answer = asked.applyAsLong(h);
        edges.is(call, promise == 25 ? 1000000000 - answer : answer, want);
        same(call, RichHouse.tell(h), "count(" + (10 - want) + ")");
    }

    /** All is as in a house that was not asked, but for one more of the REFUSALS of that count. */
    private static void same(String call, Map<String, Long> told, String counted) {
        for (Map.Entry<String, Long> entry : UNTOUCHED.entrySet()) {
            long want = entry.getValue() + (entry.getKey().equals(counted) ? 1 : 0);
            edges.is(call + ", then " + entry.getKey(), told.get(entry.getKey()), want);
        }
    }

    private static void theNumbers() {
        of(0, "REFUSALS (the call answers the number, the first that fits in the order in which it tells them;"
            + " nothing changes but how many there were):");
        refused(-1, "all is wrong", h -> h.lane(NO_MACHINE, 16, 5010, 0, 4, -1));
        refused(-2, "all but MACHINE and GOOD", h -> h.lane(0, 15, 5010, 0, 4, -1));
        refused(-4, "all but these and KIND", h -> h.lane(0, 15, 5010, 0, 2, -1));
        refused(-6, "all that is above", h -> h.lane(0, 15, 5010, 21, 2, 49));
        of(0, "-1 NOBODY: no such MACHINE, LANE, WORTH, GOOD.");
        refused(-1, "MACHINE", h -> h.back(NO_MACHINE));
        refused(-1, "LANE", h -> h.empty(0, 8));
        refused(-1, "LANE of a MACHINE that has two", h -> h.empty(1, 2));
        refused(-1, "LANE of a MACHINE without", h -> h.empty(5, 0));
        refused(-1, "WORTH", h -> h.tubeOf(0, 6));
        refused(-1, "GOOD", h -> h.size(16, 1));
        of(0, "-2 OTHER: a LANE of another KIND, no such KIND, what.");
        refused(-2, "a LANE of another KIND", h -> h.stick(0, RichHouse.PLAIN, 1));
        refused(-2, "no such KIND", h -> h.lane(1, 0, 10, 1, 4, 0));
        refused(-2, "what", h -> h.laneOf(0, 0, 9));
        of(0, "-3 STATE: as told.");
        refused(-3, "it does not SELL", h -> h.choose(0, RichHouse.BARE));
        refused(-3, "SPOILED", h -> h.fill(0, RichHouse.SPOILED, 1));
        of(0, "-4 BELOW: a number below the least, or that may not be.");
        refused(-4, "below the least", h -> h.price(0, 0, 0));
        refused(-4, "that may not be", h -> h.price(0, 0, 15));
        of(0, "-5 LACK.");
        refused(-5, "what is IN is worth less", h -> h.choose(0, RichHouse.PLAIN));
        of(0, "-6 ROOM: a number above the greatest, or no room.");
        refused(-6, "above the greatest", h -> h.price(0, 0, 5010));
        refused(-6, "no room", h -> h.fill(0, RichHouse.FULL, 1));
    }

    private static void machineAndLane() {
        of(2, "-6.");
        refused(-6, "a seventh", h -> h.machine());
        of(3, "-1 (MACHINE, GOOD);");
        refused(-1, "MACHINE 6", h -> h.lane(NO_MACHINE, 0, 10, 1, 0, 0));
        refused(-1, "GOOD 16", h -> h.lane(1, 16, 10, 1, 0, 0));
        for (int n : NO_NUMBER) {
            refused(-1, "MACHINE " + n, h -> h.lane(n, 0, 10, 1, 0, 0));
            refused(-1, "GOOD " + n, h -> h.lane(1, n, 10, 1, 0, 0));
        }
        refused(-1, "MACHINE before KIND", h -> h.lane(NO_MACHINE, 0, 10, 1, 4, 0));
        refused(-1, "GOOD before KIND", h -> h.lane(1, 16, 10, 1, 4, 0));
        refused(-1, "GOOD before what is below", h -> h.lane(1, 16, 0, 0, 0, 0));
        refused(-1, "GOOD before LANES", h -> h.lane(0, 16, 10, 1, 0, 0));
        of(3, "-2 KIND;");
        refused(-2, "KIND 4", h -> h.lane(1, 0, 10, 1, 4, 0));
        for (int n : NO_NUMBER) {
            refused(-2, "KIND " + n, h -> h.lane(1, 0, 10, 1, n, 0));
        }
        refused(-2, "before price below", h -> h.lane(1, 0, 0, 1, 4, 0));
        refused(-2, "before depth below", h -> h.lane(1, 0, 10, 0, 4, 0));
        refused(-2, "before price above", h -> h.lane(1, 0, 5010, 1, 4, 0));
        refused(-2, "before depth above", h -> h.lane(1, 0, 10, 21, 4, 0));
        refused(-2, "before LANES", h -> h.lane(0, 0, 10, 1, 4, 0));
    }

    private static void laneBelowAndAbove() {
        of(3, "-4 price below 10, or no multiple of 10,");
        for (int price : new int[] {9, 0, -10, MIN, 11, 4999, 5001, 5009, MAX}) {
            refused(-4, "price " + price, h -> h.lane(1, 0, price, 1, 0, 0));
        }
        refused(-4, "price below before depth above", h -> h.lane(1, 0, 0, 21, 0, 0));
        refused(-4, "price below before keep above", h -> h.lane(1, 0, 0, 1, 2, 49));
        refused(-4, "price 5005 before LANES", h -> h.lane(0, 0, 5005, 1, 0, 0));
        of(3, "depth below 1,");
        for (int depth : new int[] {0, -1, MIN}) {
            refused(-4, "depth " + depth, h -> h.lane(1, 0, 10, depth, 0, 0));
        }
        refused(-4, "depth below before price above", h -> h.lane(1, 0, 5010, 0, 0, 0));
        refused(-4, "depth below before LANES", h -> h.lane(0, 0, 10, 0, 0, 0));
        of(3, "keep below 0 (looked at for COLD alone);");
        refused(-4, "keep -1", h -> h.lane(1, 0, 10, 1, 2, -1));
        refused(-4, "keep far below", h -> h.lane(1, 0, 10, 1, 2, MIN));
        refused(-4, "keep below before price above", h -> h.lane(1, 0, 5010, 1, 2, -1));
        refused(-4, "keep below before depth above", h -> h.lane(1, 0, 10, 21, 2, -1));
        refused(-4, "keep below before LANES", h -> h.lane(0, 0, 10, 1, 2, -1));
        of(3, "-6 price above 5000,");
        refused(-6, "price 5010", h -> h.lane(1, 0, 5010, 1, 0, 0));
        refused(-6, "price far above", h -> h.lane(1, 0, MAX - 7, 1, 0, 0));
        of(3, "depth above 20,");
        refused(-6, "depth 21", h -> h.lane(1, 0, 10, 21, 0, 0));
        refused(-6, "depth far above", h -> h.lane(1, 0, 10, MAX, 0, 0));
        of(3, "keep above 48,");
        refused(-6, "keep 49", h -> h.lane(1, 0, 10, 1, 2, 49));
        refused(-6, "keep far above", h -> h.lane(1, 0, 10, 1, 2, MAX));
        of(3, "LANES.");
        refused(-6, "a ninth", h -> h.lane(0, 0, 10, 1, 0, 0));
    }

    private static void sizeAndPrice() {
        of(4, "-1;");
        refused(-1, "GOOD 16", h -> h.size(16, 2));
        for (int n : NO_NUMBER) {
            refused(-1, "GOOD " + n, h -> h.size(n, 2));
        }
        refused(-1, "before below", h -> h.size(16, 0));
        refused(-1, "before above", h -> h.size(16, 10));
        of(4, "-4;");
        for (int v : new int[] {0, -1, MIN}) {
            refused(-4, "v " + v, h -> h.size(3, v));
        }
        of(4, "-6.");
        refused(-6, "v 10", h -> h.size(3, 10));
        refused(-6, "v far above", h -> h.size(3, MAX));
        of(5, "-1;");
        nobody("", (h, m, l) -> h.price(m, l, 20));
        nobody("before below", (h, m, l) -> h.price(m, l, 0));
        nobody("before above", (h, m, l) -> h.price(m, l, 5010));
        of(5, "-4;");
        for (int v : new int[] {9, 0, -10, MIN, 11, 25, 4999, 5001, 5005, MAX}) {
            refused(-4, "v " + v, h -> h.price(0, RichHouse.PLAIN, v));
        }
        of(5, "-6.");
        refused(-6, "v 5010", h -> h.price(0, RichHouse.PLAIN, 5010));
        refused(-6, "v far above", h -> h.price(0, RichHouse.PLAIN, MAX - 7));
    }

    private interface LaneCall {
        long ask(SlotHouse h, int machine, int lane);
    }

    /** No such MACHINE, and no such LANE of MACHINES with eight, two and no LANES. */
    private static void nobody(String why, LaneCall call) {
        int[][] none = {{NO_MACHINE, 0}, {-1, 0}, {MIN, 0}, {MAX, 0}, {0, 8}, {0, -1}, {0, MIN}, {0, MAX}, {1, 2}, {5, 0}};
        for (int[] at : none) {
            refused(-1, why + " MACHINE " + at[0] + " LANE " + at[1], h -> call.ask(h, at[0], at[1]));
        }
    }

    private interface MachineCall {
        long ask(SlotHouse h, int machine);
    }

    private static void noMachine(String why, MachineCall call) {
        for (int m : new int[] {NO_MACHINE, -1, MIN, MAX}) {
            refused(-1, why + " MACHINE " + m, h -> call.ask(h, m));
        }
    }

    private static void noWorth(String why, MachineCall call) {
        for (int w : new int[] {6, -1, MIN, MAX}) {
            refused(-1, why + " WORTH " + w, h -> call.ask(h, w));
        }
    }

    private static void noGood(String why, MachineCall call) {
        for (int g : new int[] {16, -1, MIN, MAX}) {
            refused(-1, why + " GOOD " + g, h -> call.ask(h, g));
        }
    }

    private static void tubeAndStick() {
        of(6, "-1;");
        noMachine("", (h, m) -> h.tube(m, 0, 1));
        noWorth("", (h, w) -> h.tube(0, w, 1));
        noWorth("before below", (h, w) -> h.tube(0, w, -1));
        noWorth("before above", (h, w) -> h.tube(0, w, 51));
        of(6, "-4 n below 0;");
        refused(-4, "n -1", h -> h.tube(0, 4, -1));
        refused(-4, "n far below", h -> h.tube(0, 5, MIN));
        of(6, "-6 more than 50.");
        refused(-6, "one into a full TUBE", h -> h.tube(0, 5, 1));
        refused(-6, "51 into an empty one", h -> h.tube(0, 0, 51));
        refused(-6, "50 into one that has one", h -> h.tube(0, 4, 50));
        refused(-6, "n far above", h -> h.tube(0, 5, MAX));
        of(7, "-1;");
        nobody("", (h, m, l) -> h.stick(m, l, 1));
        nobody("before below", (h, m, l) -> h.stick(m, l, -1));
        of(7, "-2;");
        for (int lane : new int[] {RichHouse.PLAIN, RichHouse.SPOILED, RichHouse.TWIN}) {
            refused(-2, "LANE " + lane, h -> h.stick(0, lane, 1));
            refused(-2, "before below, LANE " + lane, h -> h.stick(0, lane, -1));
            refused(-2, "before above, LANE " + lane, h -> h.stick(0, lane, 10));
        }
        of(7, "-4;");
        refused(-4, "n -1", h -> h.stick(0, RichHouse.SPIRAL, -1));
        refused(-4, "n far below", h -> h.stick(1, 1, MIN));
        of(7, "-6.");
        refused(-6, "one more than nine", h -> h.stick(1, 1, 1));
        refused(-6, "nine more than one", h -> h.stick(0, RichHouse.SPIRAL, 9));
        refused(-6, "n far above", h -> h.stick(1, 1, MAX));
    }

    private static void fillFoundEmpty() {
        of(10, "-1;");
        nobody("", (h, m, l) -> h.fill(m, l, 1));
        nobody("before below", (h, m, l) -> h.fill(m, l, -1));
        nobody("before beyond", (h, m, l) -> h.fill(m, l, 21));
        of(10, "-3 SPOILED;");
        refused(-3, "n 1", h -> h.fill(0, RichHouse.SPOILED, 1));
        refused(-3, "n 0", h -> h.fill(0, RichHouse.SPOILED, 0));
        refused(-3, "before below", h -> h.fill(0, RichHouse.SPOILED, -1));
        refused(-3, "before beyond", h -> h.fill(0, RichHouse.SPOILED, 3));
        of(10, "-4 n below 0;");
        refused(-4, "n -1", h -> h.fill(0, RichHouse.PLAIN, -1));
        refused(-4, "n far below", h -> h.fill(0, RichHouse.FULL, MIN));
        of(10, "-6 beyond DEPTH.");
        refused(-6, "one into a full one", h -> h.fill(0, RichHouse.FULL, 1));
        refused(-6, "three into one of 2", h -> h.fill(0, RichHouse.BARE, 3));
        refused(-6, "4 to 2 of 5", h -> h.fill(0, RichHouse.PLAIN, 4));
        refused(-6, "n far above", h -> h.fill(0, RichHouse.PLAIN, MAX));
        of(11, "-1;");
        nobody("", (h, m, l) -> h.found(m, l, 0));
        nobody("before below", (h, m, l) -> h.found(m, l, -1));
        nobody("before above", (h, m, l) -> h.found(m, l, 21));
        of(11, "-4 n below 0;");
        refused(-4, "n -1", h -> h.found(0, RichHouse.PLAIN, -1));
        refused(-4, "n far below", h -> h.found(0, RichHouse.PLAIN, MIN));
        of(11, "-6 above DEPTH.");
        refused(-6, "6 in one of 5", h -> h.found(0, RichHouse.PLAIN, 6));
        refused(-6, "3 in a full one of 2", h -> h.found(0, RichHouse.FULL, 3));
        refused(-6, "n far above", h -> h.found(0, RichHouse.PLAIN, MAX));
        of(12, "-1.");
        nobody("", (h, m, l) -> h.empty(m, l));
    }

    private static void insertBackGiven() {
        of(13, "-1;");
        noMachine("", (h, m) -> h.insert(m, 0));
        noWorth("", (h, w) -> h.insert(0, w));
        noWorth("before room", (h, w) -> h.insert(RichHouse.TWENTY_IN, w));
        of(13, "-6 20 are.");
        for (int w = 0; w < 6; w++) {
            int worth = w;
            refused(-6, "WORTH " + w, h -> h.insert(RichHouse.TWENTY_IN, worth));
        }
        of(14, "-1.");
        noMachine("", (h, m) -> h.back(m));
        of(16, "-1.");
        noWorth("", (h, w) -> h.given(w));
    }

    private static void choose() {
        of(15, "-1;");
        nobody("", (h, m, l) -> h.choose(m, l));
        of(15, "-3 it does not SELL;");
        refused(-3, "without STOCK", h -> h.choose(0, RichHouse.BARE));
        refused(-3, "SHUT", h -> h.choose(0, RichHouse.SHUT));
        refused(-3, "SPOILED, before worth less", h -> h.choose(0, RichHouse.SPOILED));
        refused(-3, "before no CHANGE", h -> h.choose(RichHouse.NO_CHANGE, 1));
        of(15, "-5 what is IN is worth less;");
        refused(-5, "50 of 120", h -> h.choose(0, RichHouse.PLAIN));
        refused(-5, "50 of 80, it is to STICK", h -> h.choose(0, RichHouse.SPIRAL));
        refused(-5, "200 of 500", h -> h.choose(1, 0));
        of(15, "-6 no CHANGE.");
        refused(-6, "20 of 50, it is to STICK", h -> h.choose(RichHouse.NO_CHANGE, 0));
    }

    private static void changeAndHours() {
        of(17, "-1;");
        noMachine("", (h, m) -> h.change(m, 0));
        noMachine("before below", (h, m) -> h.change(m, -1));
        noMachine("before above", (h, m) -> h.change(m, 20001));
        of(17, "-4 v below 0;");
        refused(-4, "v -1", h -> h.change(0, -1));
        refused(-4, "v far below", h -> h.change(0, MIN));
        of(17, "-6 above 20000.");
        refused(-6, "v 20001", h -> h.change(0, 20001));
        refused(-6, "v far above", h -> h.change(0, MAX));
        of(18, "-4 below 1;");
        for (int n : new int[] {0, -1, MIN}) {
            refused(-4, "n " + n, h -> h.hours(n));
        }
        of(18, "-6 it would be above 3000.");
        refused(-6, "3001", h -> h.hours(3001 - RichHouse.HOUR));
        refused(-6, "n 3000", h -> h.hours(3000));
        refused(-6, "n far above", h -> h.hours(MAX));
    }

    private static void countedForetellWhen() {
        of(19, "-1;");
        noMachine("", (h, m) -> h.counted(m, 0, 0, 0));
        noGood("", (h, g) -> h.counted(0, g, 0, 0));
        noGood("before what", (h, g) -> h.counted(0, g, 0, 2));
        noGood("before hour below", (h, g) -> h.counted(0, g, -1, 0));
        noGood("before hour above", (h, g) -> h.counted(0, g, 24, 0));
        of(19, "-2 what;");
        for (int what : new int[] {2, -1, MIN, MAX}) {
            refused(-2, "what " + what, h -> h.counted(0, 3, 0, what));
            refused(-2, "before hour below, what " + what, h -> h.counted(0, 3, -1, what));
            refused(-2, "before hour above, what " + what, h -> h.counted(0, 3, 24, what));
        }
        of(19, "-4, -6 no such HOUR OF DAY.");
        for (int what = 0; what <= 1; what++) {
            int asked = what;
            refused(-4, "hour -1", h -> h.counted(0, 3, -1, asked));
            refused(-4, "hour far below", h -> h.counted(0, 3, MIN, asked));
            refused(-6, "hour 24", h -> h.counted(0, 3, 24, asked));
            refused(-6, "hour far above", h -> h.counted(0, 3, MAX, asked));
        }
        of(20, "-1;");
        noMachine("", (h, m) -> h.foretell(m, 0, 0));
        noGood("", (h, g) -> h.foretell(0, g, 0));
        noGood("before below", (h, g) -> h.foretell(0, g, -1));
        noGood("before above", (h, g) -> h.foretell(0, g, 241));
        of(20, "-4;");
        refused(-4, "n -1", h -> h.foretell(0, 3, -1));
        refused(-4, "n far below", h -> h.foretell(0, 3, MIN));
        of(20, "-6.");
        refused(-6, "n 241", h -> h.foretell(0, 3, 241));
        refused(-6, "n far above", h -> h.foretell(0, 3, MAX));
        of(21, "-1.");
        nobody("", (h, m, l) -> h.when(m, l));
    }

    private static void loadAndLoaded() {
        of(22, "-1;");
        noMachine("", (h, m) -> h.load(m, 10));
        noMachine("before below", (h, m) -> h.load(m, -1));
        noMachine("before above", (h, m) -> h.load(m, 201));
        of(22, "-4 room below 0;");
        refused(-4, "room -1", h -> h.load(1, -1));
        refused(-4, "room far below", h -> h.load(1, MIN));
        of(22, "-6 above 200.");
        refused(-6, "room 201", h -> h.load(1, 201));
        refused(-6, "room far above", h -> h.load(1, MAX));
        of(23, "-4 below 0.");
        refused(-4, "LANE -1", h -> h.loaded(-1));
        refused(-4, "LANE far below", h -> h.loaded(MIN));
    }

    private static void telling() {
        of(24, "-1;");
        nobody("", (h, m, l) -> h.laneOf(m, l, 0));
        nobody("before what", (h, m, l) -> h.laneOf(m, l, 9));
        of(24, "-2.");
        for (int what : new int[] {9, -1, MIN, MAX}) {
            refused(-2, "what " + what, h -> h.laneOf(0, 0, what));
        }
        of(25, "-1;");
        noMachine("", (h, m) -> h.machineOf(m, 4));
        noMachine("before what", (h, m) -> h.machineOf(m, 9));
        of(25, "-2.");
        for (int what : new int[] {9, -1, MIN, MAX}) {
            refused(-2, "what " + what, h -> h.machineOf(0, what));
        }
        of(26, "-1.");
        noMachine("", (h, m) -> h.tubeOf(m, 0));
        noWorth("", (h, w) -> h.tubeOf(0, w));
        of(27, "-1.");
        noMachine("", (h, m) -> h.collect(m));
    }

    private static void unchanged(String call, long want, ToLongFunction<SlotHouse> asked) {
        SlotHouse h = RichHouse.make();
        edges.is(call, asked.applyAsLong(h), want);
        same(call, RichHouse.tell(h), "none");
    }

    private static void falseChangesNothing() {
        of(8, "false if it was so, or there is none such.");
        unchanged("it was SHUT", 0, h -> h.shut(0, RichHouse.SHUT, true) ? 1 : 0);
        unchanged("it was not SHUT, with MISSES", 0, h -> h.shut(0, RichHouse.SPIRAL, false) ? 1 : 0);
        int[][] none = {{NO_MACHINE, 0}, {-1, 0}, {MIN, 0}, {MAX, 0}, {0, 8}, {0, -1}, {0, MIN}, {0, MAX}, {1, 2}, {5, 0}};
        for (int[] at : none) {
            unchanged("shut " + at[0] + ", " + at[1], 0, h -> h.shut(at[0], at[1], true) ? 1 : 0);
            unchanged("open " + at[0] + ", " + at[1], 0, h -> h.shut(at[0], at[1], false) ? 1 : 0);
        }
        of(9, "false if it was so, or there is none such.");
        unchanged("it was off", 0, h -> h.power(0, false) ? 1 : 0);
        unchanged("it was on", 0, h -> h.power(1, true) ? 1 : 0);
        for (int m : new int[] {NO_MACHINE, -1, MIN, MAX}) {
            unchanged("off of MACHINE " + m, 0, h -> h.power(m, false) ? 1 : 0);
            unchanged("on of MACHINE " + m, 0, h -> h.power(m, true) ? 1 : 0);
        }
        of(28, "False if there is none such.");
        for (int m : new int[] {NO_MACHINE, -1, MIN, MAX}) {
            unchanged("MACHINE " + m, 0, h -> h.check(m) ? 1 : 0);
        }
    }

    private static void noRefusalIsCounted() {
        of(17, "-9 if not.");
        unchanged("no CHANGE of 5", -9, h -> h.change(0, 5));
        unchanged("CHANGE of 50", 1, h -> h.change(0, 50));
        of(21, "-9 if there is no such n.");
        unchanged("no sale", -9, h -> h.when(0, RichHouse.FULL));
        of(29, "-9 for another what.");
        for (int what : new int[] {-1, 4, 10, 17, MIN, MAX}) {
            unchanged("what " + what, -9, h -> h.count(what));
        }
    }
}
