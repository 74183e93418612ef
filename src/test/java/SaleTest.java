/** Promises 13 to 17: coins that come in, what falls, and the change. */
public final class SaleTest {
    private static final Due due = new Due("SaleTest");

    public static void main(String[] args) {
        promise13Insert();
        promise14Back();
        promise15ChooseOrder();
        promise15ChooseFalls();
        promise15TubesAndBox();
        promise15Spiral();
        promise15SpiralNeedsChangeToo();
        promise15Twin();
        promise15TwinRefused();
        promise15PowerOffSells();
        promise16Given();
        promise16MoreOfTheGreater();
        promise17Change();
        due.end();
    }

    private static SlotHouse house(int price, int kind) {
        SlotHouse h = new SlotHouse();
        h.machine();
        h.lane(0, 3, price, 9, kind, 0);
        h.fill(0, 0, 9);
        return h;
    }

    private static void promise13Insert() {
        SlotHouse h = new SlotHouse();
        h.machine();
        h.machine();
        int[] sums = {500, 700, 800, 850, 870, 880};
        for (int w = 0; w < 6; w++) {
            due.is("13 insert", h.insert(0, w), sums[w]);
        }
        due.is("13 worth", h.insert(0, 6), -1);
        due.is("13 worth below", h.insert(0, -1), -1);
        due.is("13 machine", h.insert(2, 0), -1);
        for (int i = 7; i <= 20; i++) {
            due.is("13 insert more", h.insert(0, 5), 880 + 10 * (i - 6));
        }
        due.is("13 the 21st", h.insert(0, 5), -6);
        due.is("13 worth before room", h.insert(0, 6), -1);
        due.is("13 the other machine", h.insert(1, 0), 500);
        due.is("13 in", h.machineOf(0, 3), 1020);
        due.is("13 check", h.check(0), true);
        h.back(0);
        twentyMore(h, "after back");
        h.lane(0, 0, 200, 1, 0, 0);
        h.fill(0, 0, 1);
        due.is("13 a sale", h.choose(0, 0), 0);
        twentyMore(h, "after a sale");
    }

    private static void twentyMore(SlotHouse h, String then) {
        for (int i = 1; i <= 20; i++) {
            due.is("13 insert " + then, h.insert(0, 5), 10 * i);
        }
        due.is("13 the 21st " + then, h.insert(0, 5), -6);
    }

    private static void promise14Back() {
        SlotHouse h = new SlotHouse();
        h.machine();
        due.is("14 nothing", h.back(0), 0);
        Due.coins(h, 0, 0, 0, 4);
        due.is("14 all", h.back(0), 1020);
        due.is("14 none in", h.machineOf(0, 3), 0);
        due.is("14 tubes have none", h.machineOf(0, 1), 0);
        due.is("14 again", h.back(0), 0);
        due.is("14 machine", h.back(1), -1);
        due.is("14 machine below", h.back(-1), -1);
        due.is("14 check", h.check(0), true);
    }

    private static void promise15ChooseOrder() {
        SlotHouse h = new SlotHouse();
        h.machine();
        h.lane(0, 3, 120, 9, 0, 0);
        due.is("15 machine", h.choose(1, 0), -1);
        due.is("15 lane", h.choose(0, 1), -1);
        due.is("15 lane below", h.choose(0, -1), -1);
        due.is("15 no stock", h.choose(0, 0), -3);
        h.fill(0, 0, 9);
        due.is("15 nothing in", h.choose(0, 0), -5);
        h.insert(0, 2);
        due.is("15 less in", h.choose(0, 0), -5);
        h.insert(0, 2);
        due.is("15 no change", h.choose(0, 0), -6);
        due.is("15 what is in stays", h.machineOf(0, 3), 200);
        h.shut(0, 0, true);
        due.is("15 shut before no change", h.choose(0, 0), -3);
        h.shut(0, 0, false);
        h.tube(0, 4, 4);
        due.is("15 change of 80", h.choose(0, 0), 80);
        due.is("15 stock", h.laneOf(0, 0, 3), 8);
        due.is("15 in", h.machineOf(0, 3), 0);
        due.is("15 sold", h.machineOf(0, 6), 1);
        due.is("15 sold of all", h.count(2), 1);
        due.is("15 counts", h.count(11) * 1000 + h.count(13) * 100 + h.count(15) * 10 + h.count(16), 3221);
        due.is("15 check", h.check(0), true);
    }

    private static void promise15ChooseFalls() {
        SlotHouse h = house(60, 0);
        Due.coins(h, 0, 3, 5);
        due.is("15 exact", h.choose(0, 0), 0);
        due.is("15 tubes have it", h.machineOf(0, 1), 60);
        Due.coins(h, 0, 3, 3, 4);
        due.is("15 change from tubes and what is in", h.choose(0, 0), 60);
        due.is("15 given 50", h.given(3), 1);
        due.is("15 given 10", h.given(5), 1);
        due.is("15 tube of 50", h.tubeOf(0, 3), 2);
        due.is("15 tube of 20", h.tubeOf(0, 4), 1);
        due.is("15 tube of 10", h.tubeOf(0, 5), 0);
        due.is("15 check", h.check(0), true);

        SlotHouse g = house(50, 0);
        Due.coins(g, 0, 3, 4, 4);
        due.is("15 change from what is in alone", g.choose(0, 0), 40);
        due.is("15 given 20", g.given(4), 2);
        due.is("15 the 50 stays", g.machineOf(0, 1), 50);
        due.is("15 what is in stays nowhere else", g.machineOf(0, 2) + g.machineOf(0, 3), 0);
    }

    /** A TUBE may have more than 50 for a moment; only what is left after CHANGE is cut. */
    private static void promise15TubesAndBox() {
        SlotHouse h = house(10, 0);
        h.tube(0, 5, 50);
        for (int i = 0; i < 20; i++) {
            h.insert(0, 5);
        }
        h.tube(0, 3, 50);
        due.is("15 change of 190", h.choose(0, 0), 190);
        due.is("15 by 50s", h.given(3), 3);
        due.is("15 by 10s", h.given(5), 4);
        due.is("15 tube is cut", h.tubeOf(0, 5), 50);
        due.is("15 tube of 50s", h.tubeOf(0, 3), 47);
        due.is("15 the rest in the box", h.machineOf(0, 2), 160);
        due.is("15 check", h.check(0), true);

        SlotHouse g = house(10, 0);
        g.tube(0, 5, 50);
        Due.coins(g, 0, 5, 5, 5);
        due.is("15 change by the same coins", g.choose(0, 0), 20);
        due.is("15 tube stays full", g.tubeOf(0, 5), 50);
        due.is("15 one in the box", g.machineOf(0, 2), 10);
        due.is("15 collected", g.collect(0), 10);
        due.is("15 check after", g.check(0), true);
    }

    private static void promise15Spiral() {
        SlotHouse h = house(80, 1);
        h.tube(0, 4, 10);
        h.stick(0, 0, 2);
        for (int i = 1; i <= 2; i++) {
            Due.coins(h, 0, 2);
            due.is("15 nothing fell", h.choose(0, 0), -7);
            due.is("15 misses", h.laneOf(0, 0, 6), i);
            due.is("15 all came back", h.machineOf(0, 3), 0);
        }
        due.is("15 to stick", h.stick(0, 0, 0), 0);
        due.is("15 no coin stayed", h.machineOf(0, 1), 200);
        due.is("15 not counted", h.counted(0, 3, 0, 0), 0);
        Due.coins(h, 0, 2);
        due.is("15 it falls", h.choose(0, 0), 20);
        due.is("15 misses 0", h.laneOf(0, 0, 6), 0);
        h.stick(0, 0, 4);
        for (int i = 1; i <= 3; i++) {
            due.is("15 not shut yet", h.laneOf(0, 0, 5), 0);
            Due.coins(h, 0, 2);
            due.is("15 nothing fell again", h.choose(0, 0), -7);
        }
        due.is("15 shut at the third", h.laneOf(0, 0, 5), 1);
        due.is("15 misses at the third", h.laneOf(0, 0, 6), 3);
        due.is("15 one is left", h.stick(0, 0, 0), 1);
        due.is("15 stock", h.laneOf(0, 0, 3), 8);
        Due.coins(h, 0, 2);
        due.is("15 shut", h.choose(0, 0), -3);
        due.is("15 times nothing fell", h.count(3), 5);
        due.is("15 given stays", h.given(4), 1);
        h.shut(0, 0, false);
        due.is("15 sticks on", h.choose(0, 0), -7);
        due.is("15 misses from 1", h.laneOf(0, 0, 6), 1);
        due.is("15 no refusal but the one", h.count(13), 1);
        due.is("15 check", h.check(0), true);
    }

    private static void promise15SpiralNeedsChangeToo() {
        SlotHouse h = house(80, 1);
        h.stick(0, 0, 1);
        due.is("15 spiral, nothing in", h.choose(0, 0), -5);
        h.insert(0, 2);
        due.is("15 change is asked ahead of the turn", h.choose(0, 0), -6);
        due.is("15 it did not turn", h.stick(0, 0, 0), 1);
        due.is("15 no miss", h.laneOf(0, 0, 6), 0);
        due.is("15 still in", h.machineOf(0, 3), 100);
    }

    private static void promise15Twin() {
        SlotHouse h = new SlotHouse();
        h.machine();
        h.lane(0, 6, 50, 5, 3, 0);
        h.lane(0, 6, 70, 5, 1, 0);
        h.fill(0, 0, 1);
        h.fill(0, 1, 2);
        h.stick(0, 1, 1);
        Due.coins(h, 0, 3);
        due.is("15 twin, its own first", h.choose(0, 0), 0);
        due.is("15 own stock", h.laneOf(0, 0, 3), 0);
        due.is("15 next stock", h.laneOf(0, 1, 3), 2);
        Due.coins(h, 0, 3);
        due.is("15 twin, from the next, at its own price", h.choose(0, 0), 0);
        due.is("15 next stock less", h.laneOf(0, 1, 3), 1);
        due.is("15 own stock stays 0", h.laneOf(0, 0, 3), 0);
        due.is("15 the next one is still to stick", h.stick(0, 1, 0), 1);
        due.is("15 counted", h.counted(0, 6, 0, 0), 2);
        due.is("15 check", h.check(0), true);
        Due.coins(h, 0, 3, 4);
        due.is("15 the next one chosen sticks", h.choose(0, 1), -7);
        due.is("15 misses of the next", h.laneOf(0, 1, 6), 1);
        Due.coins(h, 0, 3);
        due.is("15 twin again", h.choose(0, 0), 0);
        due.is("15 misses are of the chosen one", h.laneOf(0, 1, 6), 1);
        Due.coins(h, 0, 3);
        due.is("15 both are out", h.choose(0, 0), -3);
    }

    private static void promise15TwinRefused() {
        SlotHouse h = new SlotHouse();
        h.machine();
        h.lane(0, 6, 50, 5, 3, 0);
        due.is("15 twin without a next", h.choose(0, 0), -3);
        h.lane(0, 7, 50, 5, 3, 0);
        h.fill(0, 1, 5);
        due.is("15 the next has another good", h.choose(0, 0), -3);
        h.lane(0, 7, 50, 5, 3, 0);
        h.lane(0, 7, 50, 5, 2, 0);
        h.fill(0, 3, 5);
        h.found(0, 1, 0);
        due.is("15 the next one's next does not serve", h.laneOf(0, 1, 8), 0);
        due.is("15 the next one serves", h.laneOf(0, 2, 8), 1);
        h.shut(0, 3, true);
        due.is("15 not if it is shut", h.laneOf(0, 2, 8), 0);
        h.shut(0, 3, false);
        h.shut(0, 2, true);
        due.is("15 not if the twin is shut", h.laneOf(0, 2, 8), 0);
        due.is("15 shut twin", h.choose(0, 2), -3);
        h.shut(0, 2, false);
        h.power(0, false);
        h.hours(1);
        due.is("15 not if it is spoiled", h.laneOf(0, 2, 8), 0);
        due.is("15 spoiled", h.choose(0, 3), -3);
        h.found(0, 2, 1);
        Due.coins(h, 0, 3);
        due.is("15 twin with stock of its own", h.choose(0, 2), 0);
        due.is("15 a plain lane has no next", h.laneOf(0, 3, 8), 0);
    }

    private static void promise15PowerOffSells() {
        SlotHouse h = house(50, 0);
        h.power(0, false);
        Due.coins(h, 0, 3);
        due.is("15 power is not asked", h.choose(0, 0), 0);
    }

    private static void promise16Given() {
        SlotHouse h = new SlotHouse();
        h.machine();
        h.machine();
        for (int m = 0; m < 2; m++) {
            h.lane(m, m, 10, 9, 0, 0);
            h.fill(m, 0, 9);
            for (int w = 0; w < 6; w++) {
                h.tube(m, w, 9);
            }
        }
        Due.coins(h, 0, 0, 0);
        due.is("16 change of 990", h.choose(0, 0), 990);
        int[] want = {1, 2, 0, 1, 2, 0};
        for (int w = 0; w < 6; w++) {
            due.is("16 given(" + w + ")", h.given(w), want[w]);
        }
        h.change(0, 880);
        due.is("16 change() does not alter it", h.given(2), 0);
        due.is("16 a refused one does not", h.choose(0, 0), -5);
        due.is("16 as before", h.given(1), 2);
        Due.coins(h, 1, 3);
        due.is("16 in another machine", h.choose(1, 0), 40);
        due.is("16 the latest", h.given(4), 2);
        due.is("16 none of the former", h.given(0), 0);
        h.insert(1, 5);
        due.is("16 without change", h.choose(1, 0), 0);
        due.is("16 none", h.given(4), 0);
        due.is("16 worth below", h.given(-1), -1);
        due.is("16 worth above", h.given(6), -1);
        due.is("16 count -1", h.count(11), 2);
    }

    /** 600 by three coins: 500 and two 50s, or three 200s. */
    private static void promise16MoreOfTheGreater() {
        SlotHouse h = house(400, 0);
        h.tube(0, 1, 3);
        h.tube(0, 3, 2);
        Due.coins(h, 0, 0, 0);
        due.is("16 600", h.change(0, 600), 3);
        due.is("16 600 as change", h.choose(0, 0), 600);
        due.is("16 by a 500", h.given(0), 1);
        due.is("16 by no 200", h.given(1), 0);
        due.is("16 by 50s", h.given(3), 2);

        SlotHouse g = house(400, 0);
        g.tube(0, 1, 3);
        g.tube(0, 4, 5);
        Due.coins(g, 0, 0, 0);
        due.is("16 fewer coins go first", g.choose(0, 0), 600);
        due.is("16 no 500", g.given(0), 0);
        due.is("16 three 200s", g.given(1), 3);
    }

    private static void promise17Change() {
        SlotHouse h = house(10, 0);
        due.is("17 of 0", h.change(0, 0), 0);
        due.is("17 of nothing", h.change(0, 10), -9);
        h.tube(0, 4, 3);
        h.insert(0, 3);
        due.is("17 60", h.change(0, 60), 3);
        due.is("17 70 from both", h.change(0, 70), 2);
        due.is("17 80", h.change(0, 80), -9);
        due.is("17 110", h.change(0, 110), 4);
        due.is("17 120", h.change(0, 120), -9);
        due.is("17 15", h.change(0, 15), -9);
        due.is("17 1", h.change(0, 1), -9);
        due.is("17 20000", h.change(0, 20000), -9);
        due.is("17 20001", h.change(0, 20001), -6);
        due.is("17 below", h.change(0, -1), -4);
        due.is("17 far below", h.change(0, Integer.MIN_VALUE), -4);
        due.is("17 far above", h.change(0, Integer.MAX_VALUE), -6);
        due.is("17 machine", h.change(1, 0), -1);
        due.is("17 machine before v", h.change(1, -1), -1);
        due.is("17 nothing changed", h.machineOf(0, 1) + h.machineOf(0, 3), 110);
        due.is("17 -9 is no refusal", h.count(11) + h.count(14) + h.count(16), 6);
        for (int w = 0; w < 6; w++) {
            h.tube(0, w, 50 - h.tubeOf(0, w));
        }
        due.is("17 20000 from full tubes", h.change(0, 20000), 40);
    }
}
