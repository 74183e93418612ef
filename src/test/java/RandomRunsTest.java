import java.util.ArrayList;
import java.util.List;
import java.util.Random;

/**
 * Random runs of all calls with ordinary and wild arguments: nothing throws, every coin and good is
 * accounted for, and a refused call changes nothing but how many there were.
 */
public final class RandomRunsTest {
    private static final int CALLS = 300;
    private static final int KINDS_OF_CALL = 29;
    private static final int[] WILD = {Integer.MIN_VALUE, Integer.MIN_VALUE + 1, -1000, -10, -1, 0, 1, 9, 10, 16, 24,
        49, 51, 201, 241, 1000, 3001, 5001, 20001, Integer.MAX_VALUE - 1, Integer.MAX_VALUE};
    private static final Due due = new Due("RandomRunsTest");

    public static void main(String[] args) {
        for (int seed = 0; seed < 1500; seed++) {
            run(new Random(seed));
        }
        due.end();
    }

    private static void run(Random random) {
        SlotHouse all = new SlotHouse();
        List<int[]> taken = new ArrayList<>();
        int[] refused = new int[7];
        for (int i = 0; i < CALLS; i++) {
            int[] call = i < 6 ? start(i, random) : call(random);
            long answer = answer(all, call);
            int refusal = refusal(call[0], answer);
            if (refusal == 0) {
                taken.add(call);
            } else {
                refused[refusal]++;
            }
        }
        for (int r = 1; r <= 6; r++) {
            due.is("refusals -" + r, all.count(10 + r), refused[r]);
        }
        SlotHouse only = new SlotHouse();
        for (int[] call : taken) {
            due.is("taken call " + call[0], refusal(call[0], answer(only, call)), 0);
        }
        compare(all, only);
    }

    private static int[] start(int i, Random random) {
        return i < 2 ? new int[] {0, 0, 0, 0, 0, 0, 0}
            : new int[] {1, i & 1, random.nextInt(3), 10 * (1 + random.nextInt(20)), 1 + random.nextInt(20), random.nextInt(4), random.nextInt(4)};
    }

    private static int[] call(Random random) {
        int[] call = new int[7];
        call[0] = random.nextInt(3) == 0 ? 9 + random.nextInt(6) : 1 + random.nextInt(KINDS_OF_CALL - 1);
        for (int a = 1; a < 7; a++) {
            call[a] = random.nextInt(25) == 0 ? WILD[random.nextInt(WILD.length)] : random.nextInt(a < 3 ? 2 : 5);
        }
        if (call[0] == 1 || call[0] == 3) {
            call[3] *= 10;
        }
        return call;
    }

    private static long answer(SlotHouse h, int[] c) {
        switch (c[0]) {
            case 0: return h.machine();
            case 1: return h.lane(c[1], c[2], c[3], c[4], c[5], c[6]);
            case 2: return h.size(c[2], c[3]);
            case 3: return h.price(c[1], c[2], c[3]);
            case 4: return h.tube(c[1], c[3], c[4]);
            case 5: return h.stick(c[1], c[2], c[3]);
            case 6: return h.shut(c[1], c[2], c[3] % 2 == 0) ? 1 : 0;
            case 7: return h.power(c[1], c[3] % 2 == 0) ? 1 : 0;
            case 8: return h.back(c[1]);
            case 9: return h.fill(c[1], c[2], c[3]);
            case 10: return h.insert(c[1], c[3]);
            case 11: return h.insert(c[1], c[3]);
            case 12: return h.choose(c[1], c[2]);
            case 13: return h.choose(c[1], c[2]);
            case 14: return h.hours(c[3]);
            case 15: return h.found(c[1], c[2], c[3]);
            case 16: return h.empty(c[1], c[2]);
            case 17: return h.given(c[3]);
            case 18: return h.change(c[1], 10 * c[3]);
            case 19: return h.counted(c[1], c[2], c[3], c[4] % 2);
            case 20: return h.foretell(c[1], c[2], c[3]);
            case 21: return h.when(c[1], c[2]);
            case 22: return h.load(c[1], c[3]);
            case 23: return h.loaded(c[2]);
            case 24: return h.laneOf(c[1], c[2], c[3]);
            case 25: return h.machineOf(c[1], c[3]);
            case 26: return h.tubeOf(c[1], c[3]);
            case 27: return h.collect(c[1]);
            default: return h.count(c[3]);
        }
    }

    private static int refusal(int kind, long answer) {
        if (kind == 25) {
            return answer > 1000000000 ? (int) (answer - 1000000000) : 0;
        }
        return answer <= -1 && answer >= -6 ? (int) -answer : 0;
    }

    /** Asks both all that they tell; what is told of lanes and the like must be the same. */
    private static void compare(SlotHouse a, SlotHouse b) {
        for (int what = 0; what <= 3; what++) {
            due.is("count " + what, a.count(what), b.count(what));
        }
        for (int i = 0; i < 6; i++) {
            due.is("given", a.given(i), b.given(i));
            due.is("loaded", a.loaded(i), b.loaded(i));
            due.is("size", a.size(i, 1), b.size(i, 1));
        }
        for (int m = 0; m < 2; m++) {
            due.is("check", a.check(m), true);
            due.is("check of the second", b.check(m), true);
            for (int what = 0; what <= 8; what++) {
                due.is("machineOf " + what, a.machineOf(m, what), b.machineOf(m, what));
            }
            for (int w = 0; w < 6; w++) {
                due.is("tubeOf", a.tubeOf(m, w), b.tubeOf(m, w));
            }
            for (int good = 0; good < 2; good++) {
                due.is("foretell", a.foretell(m, good, 24), b.foretell(m, good, 24));
            }
            int lanes = Math.min(6, a.machineOf(m, 0));
            for (int lane = 0; lane < lanes; lane++) {
                for (int what = 0; what <= 8; what++) {
                    due.is("laneOf " + what, a.laneOf(m, lane, what), b.laneOf(m, lane, what));
                }
            }
        }
    }
}
