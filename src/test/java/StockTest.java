/** Promises 10 to 12: stock as told and as found. */
public final class StockTest {
    private static final int MIN = Integer.MIN_VALUE;
    private static final int MAX = Integer.MAX_VALUE;
    private static final Due due = new Due("StockTest");

    public static void main(String[] args) {
        promise10Fill();
        promise10FillSpoiled();
        promise11Found();
        promise12Empty();
        due.end();
    }

    private static SlotHouse house() {
        SlotHouse h = new SlotHouse();
        h.machine();
        h.lane(0, 3, 50, 5, 0, 0);
        h.lane(0, 3, 50, 20, 2, 1);
        return h;
    }

    private static void promise10Fill() {
        SlotHouse h = house();
        due.is("10 none", h.fill(0, 0, 0), 0);
        due.is("10 3", h.fill(0, 0, 3), 3);
        due.is("10 3 more", h.fill(0, 0, 3), -6);
        due.is("10 2 more", h.fill(0, 0, 2), 5);
        due.is("10 one more", h.fill(0, 0, 1), -6);
        due.is("10 none more", h.fill(0, 0, 0), 5);
        due.is("10 far above", h.fill(0, 0, MAX), -6);
        due.is("10 below", h.fill(0, 0, -1), -4);
        due.is("10 far below", h.fill(0, 0, MIN), -4);
        due.is("10 lane", h.fill(0, 2, 1), -1);
        due.is("10 lane below", h.fill(0, -1, 1), -1);
        due.is("10 machine", h.fill(1, 0, 1), -1);
        due.is("10 lane before n", h.fill(0, 2, -1), -1);
        due.is("10 stock", h.laneOf(0, 0, 3), 5);
        due.is("10 filled", h.machineOf(0, 7), 5);
        due.is("10 another lane", h.fill(0, 1, 20), 20);
        due.is("10 filled in all", h.machineOf(0, 7), 25);
        due.is("10 check", h.check(0), true);
        h.shut(0, 0, true);
        h.found(0, 0, 0);
        due.is("10 a shut lane is filled", h.fill(0, 0, 1), 1);
    }

    private static void promise10FillSpoiled() {
        SlotHouse h = house();
        h.fill(0, 1, 2);
        h.power(0, false);
        h.hours(2);
        due.is("10 spoiled", h.fill(0, 1, 1), -3);
        due.is("10 spoiled, none", h.fill(0, 1, 0), -3);
        due.is("10 spoiled before below", h.fill(0, 1, -1), -3);
        due.is("10 spoiled before room", h.fill(0, 1, 99), -3);
        due.is("10 the other lane", h.fill(0, 0, 1), 1);
        h.empty(0, 1);
        due.is("10 emptied", h.fill(0, 1, 1), 1);
        due.is("10 count -3", h.count(13), 4);
    }

    private static void promise11Found() {
        SlotHouse h = house();
        h.fill(0, 0, 4);
        due.is("11 less", h.found(0, 0, 1), 4);
        due.is("11 shrink", h.machineOf(0, 4), 3);
        due.is("11 stock", h.laneOf(0, 0, 3), 1);
        due.is("11 more", h.found(0, 0, 5), 1);
        due.is("11 shrink below 0", h.machineOf(0, 4), -1);
        due.is("11 check", h.check(0), true);
        due.is("11 same", h.found(0, 0, 5), 5);
        due.is("11 shrink same", h.machineOf(0, 4), -1);
        due.is("11 above depth", h.found(0, 0, 6), -6);
        due.is("11 far above", h.found(0, 0, MAX), -6);
        due.is("11 below", h.found(0, 0, -1), -4);
        due.is("11 lane", h.found(0, 2, 0), -1);
        due.is("11 lane before n", h.found(0, 2, -1), -1);
        due.is("11 machine", h.found(1, 0, 0), -1);
        due.is("11 none", h.found(0, 0, 0), 5);
        due.is("11 stock none", h.laneOf(0, 0, 3), 0);
        due.is("11 shrink in all", h.machineOf(0, 4), 4);
        due.is("11 filled is as told", h.machineOf(0, 7), 4);
        h.fill(0, 1, 3);
        h.power(0, false);
        h.hours(2);
        due.is("11 spoiled may be found", h.found(0, 1, 0), 3);
        due.is("11 spoiled stays till emptied", h.laneOf(0, 1, 7), 1);
        due.is("11 check at the end", h.check(0), true);
    }

    private static void promise12Empty() {
        SlotHouse h = house();
        due.is("12 nothing", h.empty(0, 0), 0);
        h.fill(0, 0, 4);
        h.fill(0, 1, 7);
        due.is("12 what it had", h.empty(0, 0), 4);
        due.is("12 stock", h.laneOf(0, 0, 3), 0);
        due.is("12 waste", h.machineOf(0, 5), 4);
        due.is("12 shrink", h.machineOf(0, 4), 0);
        h.power(0, false);
        h.hours(2);
        due.is("12 spoiled", h.laneOf(0, 1, 7), 1);
        due.is("12 emptied", h.empty(0, 1), 7);
        due.is("12 not spoiled", h.laneOf(0, 1, 7), 0);
        due.is("12 waste in all", h.machineOf(0, 5), 11);
        due.is("12 lane", h.empty(0, 2), -1);
        due.is("12 lane below", h.empty(0, -1), -1);
        due.is("12 machine", h.empty(1, 0), -1);
        due.is("12 machine below", h.empty(-1, 0), -1);
        due.is("12 check", h.check(0), true);
    }
}
