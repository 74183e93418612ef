import java.util.Arrays;

/**
 * Machines that sell goods from lanes by coins. The document (DOC.md) tells every answer; words
 * written in capitals in the comments are its terms.
 */
public final class SlotHouse {
    private static final int NOBODY = -1;
    private static final int OTHER = -2;
    private static final int STATE = -3;
    private static final int BELOW = -4;
    private static final int LACK = -5;
    private static final int ROOM = -6;
    private static final int KINDS_OF_REFUSAL = 6;
    private static final int NOTHING_FELL = -7;
    private static final int NONE = -9;
    /** SHRINK may be below 0, so machineOf tells its REFUSALS up here. */
    private static final int REFUSAL_OF_MACHINE_OF = 1000000000;

    private static final int MOST_MACHINES = 6;
    private static final int MOST_LANES = 8;
    private static final int GOODS = 16;
    private static final int LAST_HOUR = 3000;
    private static final int DAY = 24;
    private static final int MOST_FORETOLD = 240;
    private static final int PER_PIECE = 1000;

    private static final int[] WORTHS = {500, 200, 100, 50, 20, 10};
    private static final int MOST_IN_TUBE = 50;
    private static final int MOST_IN = 20;
    private static final int MOST_CHANGE = 20000;

    private static final int LEAST_PRICE = 10;
    private static final int MOST_PRICE = 5000;
    private static final int PRICE_STEP = 10;
    private static final int MOST_DEPTH = 20;
    private static final int MOST_KEEP = 48;
    private static final int MOST_SIZE = 9;
    private static final int MOST_STICKS = 9;
    private static final int MISSES_TO_SHUT = 3;
    private static final int MOST_VAN_ROOM = 200;

    private static final int SPIRAL = 1;
    private static final int COLD = 2;
    private static final int TWIN = 3;

    private final Machine[] machines;
    private final int[] sizes;
    private final int[] refusals;
    private final int[] latestGiven;
    private final Changer changer;
    private final Van van;
    private int machineCount;
    private int hour;
    private int misfalls;

    public SlotHouse() {
        machines = new Machine[MOST_MACHINES];
        sizes = new int[GOODS];
        Arrays.fill(sizes, 1);
        refusals = new int[KINDS_OF_REFUSAL + 1];
        latestGiven = new int[WORTHS.length];
        changer = new Changer();
        van = new Van();
    }

    public int machine() {
        if (machineCount >= machines.length) {
            return refuse(ROOM);
        }
        machines[machineCount] = new Machine();
        machineCount++;
        return machineCount - 1;
    }

    public int lane(int machine, int good, int price, int depth, int kind, int keep) {
        Machine m = machineAt(machine);
        if (m == null || !isGood(good)) {
            return refuse(NOBODY);
        }
        if (kind < 0 || kind > TWIN) {
            return refuse(OTHER);
        }
        int looked = kind == COLD ? keep : 0;
        if (isPriceBelow(price) || depth < 1 || looked < 0) {
            return refuse(BELOW);
        }
        if (price > MOST_PRICE || depth > MOST_DEPTH || looked > MOST_KEEP || m.isFull()) {
            return refuse(ROOM);
        }
        return m.addLane(new Lane(good, price, depth, kind, looked));
    }

    public int size(int good, int v) {
        if (!isGood(good)) {
            return refuse(NOBODY);
        }
        if (v < 1) {
            return refuse(BELOW);
        }
        if (v > MOST_SIZE) {
            return refuse(ROOM);
        }
        int before = sizes[good];
        sizes[good] = v;
        return before;
    }

    public int price(int machine, int lane, int v) {
        Lane l = laneAt(machine, lane);
        if (l == null) {
            return refuse(NOBODY);
        }
        if (isPriceBelow(v)) {
            return refuse(BELOW);
        }
        if (v > MOST_PRICE) {
            return refuse(ROOM);
        }
        int before = l.price;
        l.price = v;
        return before;
    }

    public int tube(int machine, int worth, int n) {
        Machine m = machineAt(machine);
        if (m == null || !isWorth(worth)) {
            return refuse(NOBODY);
        }
        if (n < 0) {
            return refuse(BELOW);
        }
        if (n > MOST_IN_TUBE - m.till.tubes[worth]) {
            return refuse(ROOM);
        }
        m.till.addToTube(worth, n);
        return m.till.tubes[worth];
    }

    public int stick(int machine, int lane, int n) {
        Lane l = laneAt(machine, lane);
        if (l == null) {
            return refuse(NOBODY);
        }
        if (l.kind != SPIRAL) {
            return refuse(OTHER);
        }
        if (n < 0) {
            return refuse(BELOW);
        }
        if (n > MOST_STICKS - l.sticks) {
            return refuse(ROOM);
        }
        l.sticks += n;
        return l.sticks;
    }

    public boolean shut(int machine, int lane, boolean on) {
        Lane l = laneAt(machine, lane);
        if (l == null || l.isShut == on) {
            return false;
        }
        l.isShut = on;
        if (!on) {
            l.misses = 0;
        }
        return true;
    }

    public boolean power(int machine, boolean on) {
        Machine m = machineAt(machine);
        if (m == null || m.hasPower == on) {
            return false;
        }
        m.hasPower = on;
        m.hoursOff = 0;
        return true;
    }

    public int fill(int machine, int lane, int n) {
        Machine m = machineAt(machine);
        Lane l = laneAt(machine, lane);
        if (m == null || l == null) {
            return refuse(NOBODY);
        }
        if (l.isSpoiled) {
            return refuse(STATE);
        }
        if (n < 0) {
            return refuse(BELOW);
        }
        if (n > l.depth - l.stock) {
            return refuse(ROOM);
        }
        l.stock += n;
        m.filled += n;
        return l.stock;
    }

    public int found(int machine, int lane, int n) {
        Machine m = machineAt(machine);
        Lane l = laneAt(machine, lane);
        if (m == null || l == null) {
            return refuse(NOBODY);
        }
        if (n < 0) {
            return refuse(BELOW);
        }
        if (n > l.depth) {
            return refuse(ROOM);
        }
        int before = l.stock;
        m.shrink += before - n;
        l.stock = n;
        return before;
    }

    public int empty(int machine, int lane) {
        Machine m = machineAt(machine);
        Lane l = laneAt(machine, lane);
        if (m == null || l == null) {
            return refuse(NOBODY);
        }
        int before = l.stock;
        m.waste += before;
        l.stock = 0;
        l.isSpoiled = false;
        return before;
    }

    public int insert(int machine, int worth) {
        Machine m = machineAt(machine);
        if (m == null || !isWorth(worth)) {
            return refuse(NOBODY);
        }
        if (m.till.coinsIn >= MOST_IN) {
            return refuse(ROOM);
        }
        m.till.takeIn(worth);
        return worthOf(m.till.in);
    }

    public int back(int machine) {
        Machine m = machineAt(machine);
        if (m == null) {
            return refuse(NOBODY);
        }
        return m.till.giveBack();
    }

    public int choose(int machine, int lane) {
        Machine m = machineAt(machine);
        Lane chosen = laneAt(machine, lane);
        if (m == null || chosen == null) {
            return refuse(NOBODY);
        }
        Lane source = m.sourceOf(lane);
        if (source == null) {
            return refuse(STATE);
        }
        int due = worthOf(m.till.in) - chosen.price;
        if (due < 0) {
            return refuse(LACK);
        }
        if (changer.fewest(m.till, due) == NONE) {
            return refuse(ROOM);
        }
        if (chosen.sticks > 0) {
            chosen.miss();
            m.till.giveBack();
            misfalls++;
            return NOTHING_FELL;
        }
        source.stock--;
        chosen.misses = 0;
        m.sold++;
        m.diary.countSale(chosen.good, hour % DAY);
        m.till.settle(changer.best);
        System.arraycopy(changer.best, 0, latestGiven, 0, latestGiven.length);
        return due;
    }

    public int given(int worth) {
        return isWorth(worth) ? latestGiven[worth] : refuse(NOBODY);
    }

    public int change(int machine, int v) {
        Machine m = machineAt(machine);
        if (m == null) {
            return refuse(NOBODY);
        }
        if (v < 0) {
            return refuse(BELOW);
        }
        if (v > MOST_CHANGE) {
            return refuse(ROOM);
        }
        return changer.fewest(m.till, v);
    }

    public int hours(int n) {
        if (n < 1) {
            return refuse(BELOW);
        }
        if (n > LAST_HOUR - hour) {
            return refuse(ROOM);
        }
        for (int i = 0; i < n; i++) {
            passHour();
        }
        return hour;
    }

    public int counted(int machine, int good, int hour, int what) {
        Machine m = machineAt(machine);
        if (m == null || !isGood(good)) {
            return refuse(NOBODY);
        }
        if (what != 0 && what != 1) {
            return refuse(OTHER);
        }
        if (hour < 0) {
            return refuse(BELOW);
        }
        if (hour >= DAY) {
            return refuse(ROOM);
        }
        return what == 0 ? m.diary.salesAt(good, hour) : m.diary.hoursThereAt(good, hour);
    }

    public int foretell(int machine, int good, int n) {
        Machine m = machineAt(machine);
        if (m == null || !isGood(good)) {
            return refuse(NOBODY);
        }
        if (n < 0) {
            return refuse(BELOW);
        }
        if (n > MOST_FORETOLD) {
            return refuse(ROOM);
        }
        return m.diary.foretold(good, hour, n);
    }

    public int when(int machine, int lane) {
        Machine m = machineAt(machine);
        Lane l = laneAt(machine, lane);
        if (m == null || l == null) {
            return refuse(NOBODY);
        }
        int pieces = m.stockOf(l.good);
        return pieces == 0 ? 0 : m.diary.hoursTill(l.good, hour, PER_PIECE * pieces);
    }

    public int load(int machine, int room) {
        Machine m = machineAt(machine);
        if (m == null) {
            return refuse(NOBODY);
        }
        if (room < 0) {
            return refuse(BELOW);
        }
        if (room > MOST_VAN_ROOM) {
            return refuse(ROOM);
        }
        return van.plan(m, sizes, room);
    }

    public int loaded(int lane) {
        if (lane < 0) {
            return refuse(BELOW);
        }
        return van.piecesFor(lane);
    }

    public int laneOf(int machine, int lane, int what) {
        Machine m = machineAt(machine);
        Lane l = laneAt(machine, lane);
        if (m == null || l == null) {
            return refuse(NOBODY);
        }
        switch (what) {
            case 0: return l.good;
            case 1: return l.price;
            case 2: return l.depth;
            case 3: return l.stock;
            case 4: return l.kind;
            case 5: return l.isShut ? 1 : 0;
            case 6: return l.misses;
            case 7: return l.isSpoiled ? 1 : 0;
            case 8: return m.sourceOf(lane) != null ? 1 : 0;
            default: return refuse(OTHER);
        }
    }

    public int machineOf(int machine, int what) {
        Machine m = machineAt(machine);
        if (m == null) {
            return REFUSAL_OF_MACHINE_OF - refuse(NOBODY);
        }
        switch (what) {
            case 0: return m.laneCount;
            case 1: return worthOf(m.till.tubes);
            case 2: return worthOf(m.till.box);
            case 3: return worthOf(m.till.in);
            case 4: return m.shrink;
            case 5: return m.waste;
            case 6: return m.sold;
            case 7: return m.filled;
            case 8: return m.hoursOff;
            default: return REFUSAL_OF_MACHINE_OF - refuse(OTHER);
        }
    }

    public int tubeOf(int machine, int worth) {
        Machine m = machineAt(machine);
        if (m == null || !isWorth(worth)) {
            return refuse(NOBODY);
        }
        return m.till.tubes[worth];
    }

    public int collect(int machine) {
        Machine m = machineAt(machine);
        if (m == null) {
            return refuse(NOBODY);
        }
        return m.till.emptyBox();
    }

    public boolean check(int machine) {
        Machine m = machineAt(machine);
        return m != null && m.goodsAgree() && m.till.coinsAgree();
    }

    public int count(int what) {
        if (what > 10 && what <= 10 + KINDS_OF_REFUSAL) {
            return refusals[what - 10];
        }
        switch (what) {
            case 0: return hour;
            case 1: return machineCount;
            case 2: return soldOfAll();
            case 3: return misfalls;
            default: return NONE;
        }
    }

    private int refuse(int refusal) {
        int kind = -refusal;
        if (kind >= 1 && kind < refusals.length) {
            refusals[kind]++;
        }
        return refusal;
    }

    private Machine machineAt(int machine) {
        return machine >= 0 && machine < machineCount ? machines[machine] : null;
    }

    private Lane laneAt(int machine, int lane) {
        Machine m = machineAt(machine);
        return m == null ? null : m.laneNumbered(lane);
    }

    private void passHour() {
        int over = hour % DAY;
        hour++;
        for (int i = 0; i < machineCount; i++) {
            Machine m = machineAt(i);
            if (m != null) {
                m.noteThere(over);
                m.passHourOfPower();
            }
        }
    }

    private int soldOfAll() {
        int sum = 0;
        for (int i = 0; i < machineCount; i++) {
            Machine m = machineAt(i);
            if (m != null) {
                sum += m.sold;
            }
        }
        return sum;
    }

    private static boolean isGood(int good) {
        return good >= 0 && good < GOODS;
    }

    private static boolean isWorth(int worth) {
        return worth >= 0 && worth < WORTHS.length;
    }

    /** BELOW is also what may not be: a PRICE that is no multiple of 10. */
    private static boolean isPriceBelow(int price) {
        return price < LEAST_PRICE || price % PRICE_STEP != 0;
    }

    private static int worthOf(int[] coins) {
        int sum = 0;
        for (int w = 0; w < WORTHS.length && w < coins.length; w++) {
            sum += WORTHS[w] * coins[w];
        }
        return sum;
    }

    private static final class Lane {
        private final int good;
        private final int depth;
        private final int kind;
        private final int keep;
        private int price;
        private int stock;
        private int sticks;
        private int misses;
        private boolean isShut;
        private boolean isSpoiled;

        Lane(int good, int price, int depth, int kind, int keep) {
            this.good = good;
            this.price = price;
            this.depth = depth;
            this.kind = kind;
            this.keep = keep;
        }

        boolean isClosed() {
            return isShut || isSpoiled;
        }

        void miss() {
            sticks--;
            misses++;
            if (misses >= MISSES_TO_SHUT) {
                isShut = true;
            }
        }

        void spoilAfter(int hoursOff) {
            if (kind == COLD && stock > 0 && hoursOff > keep) {
                isSpoiled = true;
            }
        }
    }

    private static final class Machine {
        private final Lane[] lanes = new Lane[MOST_LANES];
        private final Till till = new Till();
        private final Diary diary = new Diary();
        private int laneCount;
        private boolean hasPower = true;
        private int hoursOff;
        private int shrink;
        private int waste;
        private int sold;
        private int filled;

        boolean isFull() {
            return laneCount >= lanes.length;
        }

        int addLane(Lane added) {
            if (isFull()) {
                return ROOM;
            }
            lanes[laneCount] = added;
            laneCount++;
            return laneCount - 1;
        }

        Lane laneNumbered(int number) {
            return number >= 0 && number < laneCount ? lanes[number] : null;
        }

        /** The LANE from which the good would fall; null if the one of that number does not SELL. */
        Lane sourceOf(int number) {
            Lane first = laneNumbered(number);
            if (first == null || first.isClosed()) {
                return null;
            }
            if (first.stock > 0) {
                return first;
            }
            if (first.kind != TWIN) {
                return null;
            }
            Lane next = laneNumbered(number + 1);
            boolean serves = next != null && next.good == first.good && next.stock > 0 && !next.isClosed();
            return serves ? next : null;
        }

        int stockOf(int good) {
            int sum = 0;
            for (int i = 0; i < laneCount; i++) {
                Lane l = laneNumbered(i);
                if (l != null && l.good == good) {
                    sum += l.stock;
                }
            }
            return sum;
        }

        /** Two LANES of one GOOD make one HOUR of it, so a bit for each GOOD tells what is noted. */
        void noteThere(int hourOfDay) {
            int noted = 0;
            for (int i = 0; i < laneCount; i++) {
                Lane l = laneNumbered(i);
                if (l != null && (noted >> l.good & 1) == 0 && sourceOf(i) != null) {
                    noted |= 1 << l.good;
                    diary.countThere(l.good, hourOfDay);
                }
            }
        }

        void passHourOfPower() {
            if (hasPower) {
                return;
            }
            hoursOff++;
            for (int i = 0; i < laneCount; i++) {
                Lane l = laneNumbered(i);
                if (l != null) {
                    l.spoilAfter(hoursOff);
                }
            }
        }

        boolean goodsAgree() {
            int inLanes = 0;
            for (int i = 0; i < laneCount; i++) {
                Lane l = laneNumbered(i);
                if (l != null) {
                    inLanes += l.stock;
                }
            }
            return filled == sold + inLanes + waste + shrink;
        }
    }

    /** The coins of a MACHINE, by WORTH: where they are, and all that came and went. */
    private static final class Till {
        private final int[] tubes = new int[WORTHS.length];
        private final int[] box = new int[WORTHS.length];
        private final int[] in = new int[WORTHS.length];
        private final int[] came = new int[WORTHS.length];
        private final int[] wentBack = new int[WORTHS.length];
        private final int[] wentAsChange = new int[WORTHS.length];
        private final int[] collected = new int[WORTHS.length];
        private int coinsIn;

        void addToTube(int worth, int n) {
            tubes[worth] += n;
            came[worth] += n;
        }

        void takeIn(int worth) {
            in[worth]++;
            came[worth]++;
            coinsIn++;
        }

        int giveBack() {
            int sum = worthOf(in);
            for (int w = 0; w < in.length; w++) {
                wentBack[w] += in[w];
                in[w] = 0;
            }
            coinsIn = 0;
            return sum;
        }

        /** What is IN goes to the TUBES and CHANGE from them, before a TUBE is cut to 50. */
        void settle(int[] change) {
            for (int w = 0; w < tubes.length && w < change.length; w++) {
                int there = tubes[w] + in[w] - change[w];
                tubes[w] = Math.min(there, MOST_IN_TUBE);
                box[w] += there - tubes[w];
                wentAsChange[w] += change[w];
                in[w] = 0;
            }
            coinsIn = 0;
        }

        int emptyBox() {
            int sum = worthOf(box);
            for (int w = 0; w < box.length; w++) {
                collected[w] += box[w];
                box[w] = 0;
            }
            return sum;
        }

        boolean coinsAgree() {
            for (int w = 0; w < came.length; w++) {
                int known = tubes[w] + box[w] + in[w] + wentBack[w] + wentAsChange[w] + collected[w];
                if (came[w] != known) {
                    return false;
                }
            }
            return true;
        }
    }

    /**
     * Finds the fewest coins for a sum. With these WORTHS no way by the fewest coins has, of any
     * WORTH, two less than could be taken of it: smaller coins that make up for two of them always
     * hold some that are worth just one or two of them, and are more coins. Of 20 and 10 it has
     * none less. So for each of the first four WORTHS there are two numbers to try, the most and
     * one less, and 16 ways in all.
     */
    private static final class Changer {
        private static final int TRIED_WORTHS = 4;

        private final int[] tried = new int[WORTHS.length];
        private final int[] best = new int[WORTHS.length];

        /** How many coins, with the way in best; NONE if there is no way. */
        int fewest(Till till, int sum) {
            int least = NONE;
            for (int ways = 0; ways < 1 << TRIED_WORTHS; ways++) {
                int coins = coinsOfWay(ways, till, sum);
                // The ways come with more of the greater coins first, so an equal one is no better.
                if (coins != NONE && (least == NONE || coins < least)) {
                    least = coins;
                    System.arraycopy(tried, 0, best, 0, best.length);
                }
            }
            return least;
        }

        /** The bits of ways, highest first, tell of which WORTHS one less than the most is taken. */
        private int coinsOfWay(int ways, Till till, int sum) {
            int left = sum;
            int coins = 0;
            for (int w = 0; w < tried.length && w < WORTHS.length; w++) {
                int less = w < TRIED_WORTHS ? ways >> (TRIED_WORTHS - 1 - w) & 1 : 0;
                int taken = mostOf(WORTHS[w], till.tubes[w] + till.in[w], left) - less;
                if (taken < 0) {
                    return NONE;
                }
                tried[w] = taken;
                coins += taken;
                left -= taken * WORTHS[w];
            }
            return left == 0 ? coins : NONE;
        }

        private static int mostOf(int worth, int held, int left) {
            return worth > 0 ? Math.min(held, left / worth) : 0;
        }
    }

    /** Sales and HOURS THERE of a MACHINE, by GOOD and HOUR OF DAY. */
    private static final class Diary {
        private final int[] sales = new int[GOODS * DAY];
        private final int[] hoursThere = new int[GOODS * DAY];

        void countSale(int good, int hourOfDay) {
            sales[good * DAY + hourOfDay]++;
        }

        void countThere(int good, int hourOfDay) {
            hoursThere[good * DAY + hourOfDay]++;
        }

        int salesAt(int good, int hourOfDay) {
            return sales[good * DAY + hourOfDay];
        }

        int hoursThereAt(int good, int hourOfDay) {
            return hoursThere[good * DAY + hourOfDay];
        }

        int foretold(int good, int from, int n) {
            int sum = 0;
            for (int i = 0; i < n; i++) {
                sum += rate(good, (from + i) % DAY);
            }
            return sum;
        }

        /** The least number of HOURS for which FORETOLD reaches the sum; NONE if none does. */
        int hoursTill(int good, int from, int sum) {
            int soFar = 0;
            for (int n = 1; n <= MOST_FORETOLD; n++) {
                soFar += rate(good, (from + n - 1) % DAY);
                if (soFar >= sum) {
                    return n;
                }
            }
            return NONE;
        }

        private int rate(int good, int hourOfDay) {
            int there = hoursThereAt(good, hourOfDay);
            return there > 0 ? PER_PIECE * salesAt(good, hourOfDay) / there : 0;
        }
    }

    /**
     * Plans the LOAD by a table: best[i][r] is the greatest gain of the LANES from i on within room
     * r. A piece's gain is its PRICE times GAIN_STEP less its size; all room taken stays below
     * GAIN_STEP, so one number orders ways by worth first and by less room then.
     */
    private static final class Van {
        private static final int GAIN_STEP = 256;

        private final int[][] best = new int[MOST_LANES + 1][MOST_VAN_ROOM + 1];
        private final int[] pieces = new int[MOST_LANES];

        int plan(Machine m, int[] sizes, int room) {
            Arrays.fill(best[m.laneCount], 0);
            for (int i = m.laneCount - 1; i >= 0; i--) {
                Lane l = m.laneNumbered(i);
                if (l != null) {
                    fillRow(i, l, sizes[l.good], room);
                }
            }
            return takePieces(m, sizes, room);
        }

        int piecesFor(int lane) {
            return lane >= 0 && lane < pieces.length ? pieces[lane] : 0;
        }

        private void fillRow(int i, Lane l, int size, int room) {
            int most = spaceIn(l);
            int gain = gainOf(l, size);
            for (int r = 0; r <= room; r++) {
                int greatest = 0;
                int left = r;
                for (int k = 0; k <= most && left >= 0; k++) {
                    greatest = Math.max(greatest, k * gain + best[i + 1][left]);
                    left -= size;
                }
                best[i][r] = greatest;
            }
        }

        /** The most pieces that still reach the best gain, LANE by LANE; answers their worth. */
        private int takePieces(Machine m, int[] sizes, int room) {
            Arrays.fill(pieces, 0);
            int left = room;
            int worth = 0;
            for (int i = 0; i < m.laneCount; i++) {
                Lane l = m.laneNumbered(i);
                if (l != null) {
                    pieces[i] = mostAtBest(i, l, sizes[l.good], left);
                    left -= pieces[i] * sizes[l.good];
                    worth += pieces[i] * l.price;
                }
            }
            return worth;
        }

        private int mostAtBest(int i, Lane l, int size, int room) {
            int gain = gainOf(l, size);
            int most = 0;
            int left = room;
            for (int k = 0; k <= spaceIn(l) && left >= 0; k++) {
                if (k * gain + best[i + 1][left] == best[i][room]) {
                    most = k;
                }
                left -= size;
            }
            return most;
        }

        private static int spaceIn(Lane l) {
            return l.isClosed() ? 0 : l.depth - l.stock;
        }

        private static int gainOf(Lane l, int size) {
            return l.price * GAIN_STEP - size;
        }
    }
}
