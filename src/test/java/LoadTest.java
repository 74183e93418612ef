import java.util.Random;

/** Promises 22 and 23: loads for the van, against all ways tried one by one. */
public final class LoadTest {
    private static final Due due = new Due("LoadTest");

    public static void main(String[] args) {
        promise22Load();
        promise22Ties();
        promise22OneAfterAnother();
        promise22Refusals();
        promise23Loaded();
        Random random = new Random(20261116);
        for (int i = 0; i < 1500; i++) {
            compare(random, 1 + random.nextInt(4), 6);
            compare(random, 5 + random.nextInt(4), 2);
        }
        promise22Most();
        due.end();
    }

    private static void promise22Load() {
        SlotHouse h = new SlotHouse();
        h.machine();
        due.is("22 no lanes", h.load(0, 200), 0);
        h.lane(0, 0, 100, 5, 0, 0);
        h.lane(0, 1, 90, 5, 2, 0);
        h.fill(0, 0, 2);
        due.is("22 no room", h.load(0, 0), 0);
        due.is("22 room for all", h.load(0, 200), 750);
        due.is("22 up to depth", h.loaded(0), 3);
        due.is("22 the other", h.loaded(1), 5);
        due.is("22 room for 4", h.load(0, 4), 390);
        h.size(0, 2);
        due.is("22 by size", h.load(0, 4), 360);
        due.is("22 none of the large", h.loaded(0), 0);
        due.is("22 a load is only told", h.laneOf(0, 0, 3), 2);
        h.shut(0, 0, true);
        due.is("22 shut takes none", h.load(0, 200), 450);
        h.shut(0, 0, false);
        h.fill(0, 1, 1);
        h.power(0, false);
        h.hours(1);
        due.is("22 spoiled takes none", h.load(0, 200), 300);
        due.is("22 spoiled has none", h.loaded(1), 0);
        h.empty(0, 1);
        due.is("22 emptied takes again", h.load(0, 200), 750);
    }

    private static void promise22Ties() {
        SlotHouse h = new SlotHouse();
        h.machine();
        h.lane(0, 0, 20, 3, 0, 0);
        h.lane(0, 1, 40, 3, 0, 0);
        h.size(0, 2);
        h.size(1, 4);
        due.is("22 same worth, same room", h.load(0, 8), 80);
        due.is("22 more for the least lane", h.loaded(0), 2);
        due.is("22 then the next", h.loaded(1), 1);
        h.size(1, 3);
        due.is("22 same worth, less room", h.load(0, 4), 40);
        due.is("22 not the least lane", h.loaded(0), 0);
        due.is("22 that of less room", h.loaded(1), 1);
    }

    /** What an earlier load has left behind must not count in a later one. */
    private static void promise22OneAfterAnother() {
        SlotHouse h = new SlotHouse();
        h.machine();
        h.machine();
        h.lane(0, 0, 10, 5, 0, 0);
        h.lane(0, 0, 900, 5, 0, 0);
        h.lane(0, 0, 800, 5, 0, 0);
        h.lane(1, 0, 20, 5, 0, 0);
        due.is("22 three lanes", h.load(0, 12), 5 * 900 + 5 * 800 + 2 * 10);
        due.is("22 then one lane", h.load(1, 3), 60);
        due.is("22 its pieces", h.loaded(0), 3);
        due.is("22 no pieces of the former", h.loaded(1) + h.loaded(2), 0);
        due.is("22 three lanes again", h.load(0, 1), 900);
    }

    private static void promise22Refusals() {
        SlotHouse h = new SlotHouse();
        h.machine();
        h.lane(0, 0, 20, 3, 0, 0);
        due.is("22 least", h.load(0, 1), 20);
        due.is("22 machine", h.load(1, 0), -1);
        due.is("22 machine before room", h.load(1, -1), -1);
        due.is("22 below", h.load(0, -1), -4);
        due.is("22 far below", h.load(0, Integer.MIN_VALUE), -4);
        due.is("22 above", h.load(0, 201), -6);
        due.is("22 far above", h.load(0, Integer.MAX_VALUE), -6);
        due.is("22 the latest that was not refused", h.loaded(0), 1);
        due.is("22 counts", h.count(11) * 100 + h.count(14) * 10 + h.count(16), 222);
    }

    private static void promise23Loaded() {
        SlotHouse h = new SlotHouse();
        due.is("23 before any load", h.loaded(0), 0);
        h.machine();
        h.machine();
        h.lane(0, 0, 20, 3, 0, 0);
        h.lane(0, 0, 20, 4, 0, 0);
        h.lane(1, 0, 20, 5, 0, 0);
        h.load(0, 200);
        due.is("23 lane 0", h.loaded(0), 3);
        due.is("23 lane 1", h.loaded(1), 4);
        due.is("23 beyond", h.loaded(2), 0);
        due.is("23 last", h.loaded(7), 0);
        due.is("23 far beyond", h.loaded(8), 0);
        due.is("23 farthest", h.loaded(Integer.MAX_VALUE), 0);
        h.fill(0, 0, 3);
        h.lane(0, 0, 20, 4, 0, 0);
        due.is("23 as it was then", h.loaded(0), 3);
        due.is("23 no lane then", h.loaded(2), 0);
        h.load(1, 200);
        due.is("23 of the other machine", h.loaded(0), 5);
        due.is("23 that has one lane", h.loaded(1), 0);
        due.is("23 below", h.loaded(-1), -4);
        due.is("23 far below", h.loaded(Integer.MIN_VALUE), -4);
        due.is("23 counted", h.count(14), 2);
    }

    private static void promise22Most() {
        SlotHouse h = new SlotHouse();
        h.machine();
        for (int i = 0; i < 8; i++) {
            h.lane(0, i, 5000, 20, 0, 0);
        }
        due.is("22 the greatest worth", h.load(0, 200), 160 * 5000);
        h.size(7, 9);
        due.is("22 with a large one", h.load(0, 200), 146 * 5000);
    }

    /** Tries every way; keeps the first best one, as ways with more for lower lanes come first. */
    private static void compare(Random random, int lanes, int deepest) {
        SlotHouse h = new SlotHouse();
        h.machine();
        int[] price = new int[lanes];
        int[] size = new int[lanes];
        int[] space = new int[lanes];
        for (int good = 0; good < 4; good++) {
            h.size(good, 1 + random.nextInt(random.nextBoolean() ? 3 : 9));
        }
        for (int i = 0; i < lanes; i++) {
            int good = random.nextInt(4);
            int depth = 1 + random.nextInt(deepest);
            int stock = random.nextInt(depth + 1) * random.nextInt(2);
            boolean shut = random.nextInt(8) == 0;
            price[i] = 10 * (1 + random.nextInt(random.nextBoolean() ? 4 : 500));
            size[i] = h.size(good, 1);
            h.size(good, size[i]);
            space[i] = shut ? 0 : depth - stock;
            h.lane(0, good, price[i], depth, random.nextInt(4), 0);
            h.fill(0, i, stock);
            h.shut(0, i, shut);
        }
        int room = random.nextInt(random.nextBoolean() ? 20 : 60);
        int[] taken = new int[lanes];
        int[] best = {-1, 0};
        int[] bestWay = new int[lanes];
        tryAll(0, price, size, space, room, taken, best, bestWay);
        due.is("22 load, random", h.load(0, room), best[0]);
        for (int i = 0; i < lanes; i++) {
            due.is("23 loaded(" + i + "), random", h.loaded(i), bestWay[i]);
        }
    }

    private static void tryAll(int i, int[] price, int[] size, int[] space, int left, int[] taken, int[] best, int[] bestWay) {
        if (i == price.length) {
            int worth = 0;
            int room = 0;
            for (int j = 0; j < i; j++) {
                worth += taken[j] * price[j];
                room += taken[j] * size[j];
            }
            if (worth > best[0] || worth == best[0] && room < best[1]) {
                best[0] = worth;
                best[1] = room;
                System.arraycopy(taken, 0, bestWay, 0, i);
            }
            return;
        }
        for (int k = Math.min(space[i], left / size[i]); k >= 0; k--) {
            taken[i] = k;
            tryAll(i + 1, price, size, space, left - k * size[i], taken, best, bestWay);
        }
    }
}
