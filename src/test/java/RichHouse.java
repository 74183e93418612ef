import java.util.LinkedHashMap;
import java.util.Map;

/**
 * A house with six MACHINES in which something of everything has happened, and all that it tells;
 * making and telling together stay within the 512 calls of an object.
 */
final class RichHouse {
    /** LANES of MACHINE 0, which has eight. */
    static final int PLAIN = 0;
    static final int SPIRAL = 1;
    static final int SPOILED = 2;
    static final int TWIN = 3;
    static final int FULL = 5;
    static final int SHUT = 6;
    static final int BARE = 7;
    /** MACHINE 0 has 50 IN; MACHINE 1 has 20 coins IN and two LANES; 2 has 50 IN and no CHANGE. */
    static final int TWENTY_IN = 1;
    static final int NO_CHANGE = 2;
    static final int HOUR = 6;
    private static final int[] LANES = {8, 2, 2, 0, 0, 0};

    private RichHouse() {
    }

    static SlotHouse make() {
        SlotHouse h = Houses.machines(6);
        lanes(h);
        h.size(3, 2);
        h.size(9, 9);
        h.tube(0, 5, 50);
        h.tube(0, 4, 5);
        Houses.buy(h, 0, TWIN, 5, 5, 5, 5, 5);
        Houses.buy(h, 0, PLAIN, 1);
        h.stick(0, SPIRAL, 2);
        Houses.buy(h, 0, SPIRAL, 2);
        h.hours(5);
        h.shut(0, SHUT, true);
        h.power(0, false);
        h.hours(1);
        h.found(0, PLAIN, 2);
        h.insert(0, 3);
        Houses.insert(h, TWENTY_IN, 5, 20);
        h.stick(TWENTY_IN, 1, 9);
        h.empty(TWENTY_IN, 0);
        h.fill(TWENTY_IN, 0, 2);
        h.stick(NO_CHANGE, 0, 1);
        h.insert(NO_CHANGE, 3);
        h.load(0, 20);
        return h;
    }

    private static void lanes(SlotHouse h) {
        int[][] lanes = {{0, 3, 120, 5, 0}, {0, 4, 80, 3, 1}, {0, 5, 200, 4, 2}, {0, 6, 50, 2, 3}, {0, 6, 60, 2, 0},
            {0, 7, 10, 2, 0}, {0, 8, 40, 2, 0}, {0, 9, 30, 2, 0}, {1, 3, 500, 6, 2}, {1, 4, 70, 6, 1}, {2, 1, 30, 1, 1},
            {2, 1, 30, 1, 0}};
        for (int[] l : lanes) {
            h.lane(l[0], l[1], l[2], l[3], l[4], 0);
        }
        int[][] fills = {{0, 0, 4}, {0, 1, 3}, {0, 2, 2}, {0, 4, 2}, {0, 5, 2}, {0, 6, 1}, {1, 0, 3}, {1, 1, 6}, {2, 0, 1}};
        for (int[] f : fills) {
            h.fill(f[0], f[1], f[2]);
        }
    }

    /** What asking alters nothing comes first, what it alters at the end. */
    static Map<String, Long> tell(SlotHouse h) {
        Map<String, Long> told = new LinkedHashMap<>();
        for (int what : new int[] {0, 1, 2, 3, 11, 12, 13, 14, 15, 16}) {
            told.put("count(" + what + ")", (long) h.count(what));
        }
        for (int i = 0; i < 6; i++) {
            told.put("given(" + i + ")", (long) h.given(i));
        }
        for (int lane = 0; lane <= 8; lane++) {
            told.put("loaded(" + lane + ")", (long) h.loaded(lane));
        }
        for (int m = 0; m < 6; m++) {
            tellMachine(h, m, told);
        }
        for (int[] spiral : new int[][] {{0, 1}, {1, 1}, {2, 0}}) {
            told.put("sticks of " + spiral[0] + ", " + spiral[1], (long) h.stick(spiral[0], spiral[1], 0));
        }
        tellHours(h, told);
        for (int good = 0; good < 16; good++) {
            told.put("size of " + good, (long) h.size(good, 1));
        }
        for (int m = 0; m < 3; m++) {
            told.put("power on of " + m, h.power(m, false) ? 1L : 0L);
            told.put("back(" + m + ")", (long) h.back(m));
        }
        return told;
    }

    private static void tellMachine(SlotHouse h, int m, Map<String, Long> told) {
        told.put("check(" + m + ")", h.check(m) ? 1L : 0L);
        for (int what = 0; what <= 8; what++) {
            told.put("machineOf(" + m + ", " + what + ")", (long) h.machineOf(m, what));
        }
        for (int w = 0; w < 6; w++) {
            told.put("tubeOf(" + m + ", " + w + ")", (long) h.tubeOf(m, w));
        }
        for (int lane = 0; lane < LANES[m]; lane++) {
            for (int what = 0; what <= 8; what++) {
                told.put("laneOf(" + m + ", " + lane + ", " + what + ")", (long) h.laneOf(m, lane, what));
            }
        }
    }

    private static void tellHours(SlotHouse h, Map<String, Long> told) {
        for (int good : new int[] {3, 4, 6}) {
            told.put("foretell of " + good, (long) h.foretell(0, good, 24));
            for (int hour : new int[] {0, 5, 6}) {
                told.put("counted " + good + " at " + hour, (long) h.counted(0, good, hour, 0));
                told.put("there " + good + " at " + hour, (long) h.counted(0, good, hour, 1));
            }
        }
    }
}
