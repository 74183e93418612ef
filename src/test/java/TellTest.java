/** Promises 24 to 29: what is told of lanes, machines and the house. */
public final class TellTest {
    private static final int MIN = Integer.MIN_VALUE;
    private static final int MAX = Integer.MAX_VALUE;
    private static final Due due = new Due("TellTest");

    public static void main(String[] args) {
        promise24LaneOf();
        promise25MachineOf();
        promise26TubeOf();
        promise27Collect();
        promise28Check();
        promise29Count();
        due.end();
    }

    private static void promise24LaneOf() {
        SlotHouse h = new SlotHouse();
        h.machine();
        h.lane(0, 15, 5000, 20, 2, 0);
        h.lane(0, 7, 50, 6, 1, 0);
        h.fill(0, 0, 20);
        h.fill(0, 1, 5);
        h.stick(0, 1, 1);
        Due.coins(h, 0, 3);
        h.choose(0, 1);
        h.shut(0, 1, true);
        h.power(0, false);
        h.hours(1);
        int[] cold = {15, 5000, 20, 20, 2, 0, 0, 1, 0};
        int[] spiral = {7, 50, 6, 5, 1, 1, 1, 0, 0};
        for (int what = 0; what <= 8; what++) {
            due.is("24 laneOf(0, 0, " + what + ")", h.laneOf(0, 0, what), cold[what]);
            due.is("24 laneOf(0, 1, " + what + ")", h.laneOf(0, 1, what), spiral[what]);
        }
        h.shut(0, 1, false);
        due.is("24 sells", h.laneOf(0, 1, 8), 1);
        due.is("24 what 9", h.laneOf(0, 0, 9), -2);
        due.is("24 what below", h.laneOf(0, 0, -1), -2);
        due.is("24 what far", h.laneOf(0, 0, MAX), -2);
        due.is("24 lane", h.laneOf(0, 2, 0), -1);
        due.is("24 lane below", h.laneOf(0, MIN, 0), -1);
        due.is("24 machine", h.laneOf(1, 0, 0), -1);
        due.is("24 lane before what", h.laneOf(0, 2, 9), -1);
        due.is("24 counts", h.count(11) * 10 + h.count(12), 43);
    }

    private static void promise25MachineOf() {
        SlotHouse h = new SlotHouse();
        h.machine();
        h.machine();
        h.lane(0, 0, 10, 20, 0, 0);
        h.lane(0, 0, 10, 20, 0, 0);
        h.fill(0, 0, 12);
        h.fill(0, 1, 3);
        h.tube(0, 5, 50);
        h.tube(0, 0, 2);
        Due.coins(h, 0, 5);
        h.choose(0, 0);
        Due.coins(h, 0, 5, 5, 5);
        h.choose(0, 0);
        Due.coins(h, 0, 0, 4);
        h.found(0, 0, 17);
        h.empty(0, 1);
        h.power(0, false);
        h.hours(5);
        int[] want = {2, 1500, 20, 520, -7, 3, 2, 15, 5};
        for (int what = 0; what <= 8; what++) {
            due.is("25 machineOf(0, " + what + ")", h.machineOf(0, what), want[what]);
            due.is("25 machineOf(1, " + what + ")", h.machineOf(1, what), 0);
        }
        h.power(0, true);
        due.is("25 power is on", h.machineOf(0, 8), 0);
        due.is("25 machine", h.machineOf(2, 0), 1000000001);
        due.is("25 machine below", h.machineOf(-1, 0), 1000000001);
        due.is("25 what", h.machineOf(0, 9), 1000000002);
        due.is("25 what below", h.machineOf(0, -1), 1000000002);
        due.is("25 machine before what", h.machineOf(2, 9), 1000000001);
        due.is("25 counts", h.count(11) * 10 + h.count(12), 32);
        due.is("25 check", h.check(0), true);
    }

    private static void promise26TubeOf() {
        SlotHouse h = new SlotHouse();
        h.machine();
        for (int w = 0; w < 6; w++) {
            h.tube(0, w, w + 1);
        }
        h.insert(0, 0);
        for (int w = 0; w < 6; w++) {
            due.is("26 tubeOf(0, " + w + ")", h.tubeOf(0, w), w + 1);
        }
        due.is("26 worth", h.tubeOf(0, 6), -1);
        due.is("26 worth below", h.tubeOf(0, -1), -1);
        due.is("26 machine", h.tubeOf(1, 0), -1);
        due.is("26 machine far", h.tubeOf(MAX, 0), -1);
        due.is("26 counted", h.count(11), 4);
    }

    private static void promise27Collect() {
        SlotHouse h = new SlotHouse();
        h.machine();
        due.is("27 nothing", h.collect(0), 0);
        h.lane(0, 0, 1000, 20, 0, 0);
        h.fill(0, 0, 20);
        h.tube(0, 0, 49);
        for (int i = 0; i < 2; i++) {
            Due.coins(h, 0, 0, 0);
            h.choose(0, 0);
        }
        h.insert(0, 3);
        due.is("27 the box", h.machineOf(0, 2), 1500);
        due.is("27 collected", h.collect(0), 1500);
        due.is("27 it is empty", h.machineOf(0, 2), 0);
        due.is("27 nothing more", h.collect(0), 0);
        due.is("27 tubes stay", h.tubeOf(0, 0), 50);
        due.is("27 what is in stays", h.machineOf(0, 3), 50);
        due.is("27 check", h.check(0), true);
        due.is("27 machine", h.collect(1), -1);
        due.is("27 machine below", h.collect(-1), -1);
    }

    private static void promise28Check() {
        SlotHouse h = new SlotHouse();
        due.is("28 no machine", h.check(0), false);
        h.machine();
        due.is("28 new", h.check(0), true);
        due.is("28 beyond", h.check(1), false);
        due.is("28 below", h.check(-1), false);
        due.is("28 false is no refusal", h.count(11), 0);
        h.lane(0, 0, 10, 20, 1, 0);
        h.tube(0, 5, 50);
        due.is("28 tube", h.check(0), true);
        h.fill(0, 0, 20);
        due.is("28 fill", h.check(0), true);
        Due.coins(h, 0, 5, 4);
        due.is("28 insert", h.check(0), true);
        h.choose(0, 0);
        due.is("28 choose", h.check(0), true);
        h.stick(0, 0, 1);
        Due.coins(h, 0, 5);
        due.is("28 sticks", h.choose(0, 0), -7);
        due.is("28 after a miss", h.check(0), true);
        Due.coins(h, 0, 0, 1, 2);
        h.back(0);
        due.is("28 back", h.check(0), true);
        h.found(0, 0, 3);
        due.is("28 found", h.check(0), true);
        h.empty(0, 0);
        due.is("28 empty", h.check(0), true);
        h.collect(0);
        due.is("28 collect", h.check(0), true);
    }

    private static void promise29Count() {
        SlotHouse h = new SlotHouse();
        h.machine();
        h.machine();
        for (int m = 0; m < 2; m++) {
            h.lane(m, 0, 10, 20, 1, 0);
            h.fill(m, 0, 20);
            Due.coins(h, m, 5);
            h.choose(m, 0);
        }
        h.stick(1, 0, 1);
        Due.coins(h, 1, 5);
        h.choose(1, 0);
        h.hours(7);
        h.back(9);
        for (int i = 0; i < 2; i++) {
            h.laneOf(0, 0, 99);
        }
        h.found(0, 0, 0);
        for (int i = 0; i < 3; i++) {
            h.choose(0, 0);
        }
        for (int i = 0; i < 4; i++) {
            h.hours(-1);
        }
        h.fill(0, 0, 1);
        for (int i = 0; i < 5; i++) {
            h.choose(0, 0);
        }
        for (int i = 0; i < 6; i++) {
            h.hours(5000);
        }
        due.is("29 hour", h.count(0), 7);
        due.is("29 machines", h.count(1), 2);
        due.is("29 sold of all", h.count(2), 2);
        due.is("29 nothing fell", h.count(3), 1);
        for (int what = 11; what <= 16; what++) {
            due.is("29 count(" + what + ")", h.count(what), what - 10);
        }
        for (int what : new int[] {-1, 4, 5, 10, 17, 18, MIN, MAX}) {
            due.is("29 count(" + what + ")", h.count(what), -9);
        }
        due.is("29 -9 is no refusal", h.count(12), 2);
    }
}
