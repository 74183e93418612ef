import java.util.Random;

/** Promises 15 to 17: the change against a table over all sums, in many random machines. */
public final class ChangeTest {
    private static final int[] WORTHS = {500, 200, 100, 50, 20, 10};
    private static final int NO_WAY = 1000000;
    private static final Due due = new Due("ChangeTest");

    public static void main(String[] args) {
        Random random = new Random(20261116);
        for (int i = 0; i < 3000; i++) {
            compareChoose(random);
        }
        for (int i = 0; i < 150; i++) {
            compareChange(random);
        }
        due.end();
    }

    /** least[w][t]: the fewest coins of the WORTHS from w on for t tens. */
    private static int[][] table(int[] held, int tens) {
        int[][] least = new int[7][tens + 1];
        java.util.Arrays.fill(least[6], NO_WAY);
        least[6][0] = 0;
        for (int w = 5; w >= 0; w--) {
            int step = WORTHS[w] / 10;
            for (int t = 0; t <= tens; t++) {
                least[w][t] = NO_WAY;
                for (int k = 0; k <= held[w] && k * step <= t; k++) {
                    least[w][t] = Math.min(least[w][t], k + least[w + 1][t - k * step]);
                }
            }
        }
        return least;
    }

    /** The fewest coins, with more of the greater ones; null if there is no way. */
    private static int[] way(int[] held, int tens) {
        int[][] least = table(held, tens);
        if (least[0][tens] >= NO_WAY) {
            return null;
        }
        int[] way = new int[6];
        int t = tens;
        for (int w = 0; w < 6; w++) {
            int step = WORTHS[w] / 10;
            for (int k = 0; k <= held[w] && k * step <= t; k++) {
                if (k + least[w + 1][t - k * step] == least[w][t]) {
                    way[w] = k;
                }
            }
            t -= way[w] * step;
        }
        return way;
    }

    private static int few(Random random, int most) {
        int kind = random.nextInt(4);
        return kind == 0 ? 0 : kind == 1 ? random.nextInt(3) : kind == 2 ? random.nextInt(8) : random.nextInt(most + 1);
    }

    private static void compareChoose(Random random) {
        SlotHouse h = new SlotHouse();
        h.machine();
        int[] tubes = new int[6];
        int[] held = new int[6];
        for (int w = 0; w < 6; w++) {
            tubes[w] = random.nextInt(12) == 0 ? 50 : few(random, 50);
            h.tube(0, w, tubes[w]);
            held[w] = tubes[w];
        }
        int sum = 0;
        int coins = 1 + random.nextInt(20);
        for (int i = 0; i < coins; i++) {
            int w = random.nextInt(1 + random.nextInt(6));
            sum = h.insert(0, w);
            held[w]++;
        }
        int price = 10 * (1 + random.nextInt(Math.min(sum, 5000) / 10));
        h.lane(0, 0, price, 1, 0, 0);
        h.fill(0, 0, 1);
        int[] want = way(held, (sum - price) / 10);
        due.is("choose", h.choose(0, 0), want == null ? -6 : sum - price);
        if (want == null) {
            return;
        }
        int box = 0;
        for (int w = 0; w < 6; w++) {
            due.is("given(" + w + ")", h.given(w), want[w]);
            int there = held[w] - want[w];
            due.is("tubeOf(0, " + w + ")", h.tubeOf(0, w), Math.min(50, there));
            box += Math.max(0, there - 50) * WORTHS[w];
        }
        due.is("box", h.machineOf(0, 2), box);
        due.is("check", h.check(0), true);
    }

    /** Every sum by tens up to 4000, some beyond, within the calls that an object is used for. */
    private static void compareChange(Random random) {
        SlotHouse h = new SlotHouse();
        h.machine();
        int[] held = new int[6];
        for (int w = 0; w < 6; w++) {
            held[w] = few(random, 50);
            h.tube(0, w, held[w]);
        }
        int[][] least = table(held, 2000);
        for (int t = 0; t <= 400; t++) {
            compareOne(h, least, t);
        }
        for (int i = 0; i < 100; i++) {
            compareOne(h, least, random.nextInt(2001));
        }
    }

    private static void compareOne(SlotHouse h, int[][] least, int tens) {
        int want = least[0][tens] >= NO_WAY ? -9 : least[0][tens];
        due.is("change(0, " + 10 * tens + ")", h.change(0, 10 * tens), want);
    }
}
