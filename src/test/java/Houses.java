/** Small houses for the boundary tests. */
final class Houses {
    static final int MIN = Integer.MIN_VALUE;
    static final int MAX = Integer.MAX_VALUE;
    static final int PLAIN = 0;
    static final int SPIRAL = 1;
    static final int COLD = 2;
    static final int TWIN = 3;
    /** The GOOD of the first LANE in these houses. */
    static final int GOOD = 3;

    private Houses() {
    }

    static SlotHouse machines(int n) {
        SlotHouse h = new SlotHouse();
        for (int i = 0; i < n; i++) {
            h.machine();
        }
        return h;
    }

    /** One MACHINE with one LANE of GOOD, with KEEP 0 if it is COLD. */
    static SlotHouse lane(int price, int depth, int kind, int stock) {
        SlotHouse h = machines(1);
        h.lane(0, GOOD, price, depth, kind, 0);
        h.fill(0, 0, stock);
        return h;
    }

    /** Of one MACHINE: LANE 0 a TWIN without STOCK, LANE 1 behind it of the same GOOD. */
    static SlotHouse twin(int kindOfNext, int stockOfNext) {
        SlotHouse h = machines(1);
        h.lane(0, GOOD, 50, 5, TWIN, 0);
        h.lane(0, GOOD, 70, 5, kindOfNext, 0);
        h.fill(0, 1, stockOfNext);
        return h;
    }

    /** Pays with one coin of each WORTH that is named, and CHOOSES. */
    static int buy(SlotHouse h, int machine, int lane, int... worths) {
        Due.coins(h, machine, worths);
        return h.choose(machine, lane);
    }

    static void insert(SlotHouse h, int machine, int worth, int times) {
        for (int i = 0; i < times; i++) {
            h.insert(machine, worth);
        }
    }

    /** POWER of MACHINE 0 is off for these HOURS, and stays off. */
    static void off(SlotHouse h, int hours) {
        h.power(0, false);
        if (hours > 0) {
            h.hours(hours);
        }
    }
}
