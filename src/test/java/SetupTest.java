/** Promises 1 to 9: what is set up before anything is sold. */
public final class SetupTest {
    private static final int MIN = Integer.MIN_VALUE;
    private static final int MAX = Integer.MAX_VALUE;
    private static final Due due = new Due("SetupTest");

    public static void main(String[] args) {
        promise1NewObject();
        promise2Machine();
        promise3Lane();
        promise3LaneRefusals();
        promise4Size();
        promise5Price();
        promise6Tube();
        promise7Stick();
        promise8Shut();
        promise9Power();
        due.end();
    }

    private static void promise1NewObject() {
        SlotHouse h = new SlotHouse();
        for (int what = 0; what <= 3; what++) {
            due.is("1 count(" + what + ")", h.count(what), 0);
        }
        for (int what = 11; what <= 16; what++) {
            due.is("1 count(" + what + ")", h.count(what), 0);
        }
        for (int w = 0; w < 6; w++) {
            due.is("1 given", h.given(w), 0);
        }
        due.is("1 loaded", h.loaded(0), 0);
        due.is("1 no machine", h.back(0), -1);
        SlotHouse other = new SlotHouse();
        other.machine();
        due.is("1 objects share nothing", h.count(1), 0);
    }

    private static void promise2Machine() {
        SlotHouse h = new SlotHouse();
        for (int i = 0; i < 6; i++) {
            due.is("2 machine", h.machine(), i);
        }
        due.is("2 seventh", h.machine(), -6);
        due.is("2 seventh again", h.machine(), -6);
        due.is("2 count of refusals", h.count(16), 2);
        due.is("2 machines", h.count(1), 6);
        for (int what = 0; what <= 8; what++) {
            due.is("2 machineOf(5, " + what + ")", h.machineOf(5, what), 0);
        }
        for (int w = 0; w < 6; w++) {
            due.is("2 tubeOf", h.tubeOf(5, w), 0);
        }
        due.is("2 power is on at first", h.power(5, true), false);
    }

    private static void promise3Lane() {
        SlotHouse h = new SlotHouse();
        h.machine();
        h.machine();
        due.is("3 least", h.lane(1, 0, 10, 1, 0, 0), 0);
        due.is("3 most", h.lane(1, 15, 5000, 20, 2, 48), 1);
        due.is("3 keep 0", h.lane(1, 15, 4990, 20, 2, 0), 2);
        due.is("3 keep not looked at, far below", h.lane(1, 1, 10, 1, 0, MIN), 3);
        due.is("3 keep not looked at, far above", h.lane(1, 1, 10, 1, 1, MAX), 4);
        due.is("3 keep not looked at, twin", h.lane(1, 1, 10, 1, 3, 49), 5);
        due.is("3 seventh", h.lane(1, 1, 10, 1, 3, -1), 6);
        due.is("3 eighth", h.lane(1, 2, 30, 7, 1, 0), 7);
        due.is("3 ninth", h.lane(1, 2, 30, 7, 1, 0), -6);
        due.is("3 lanes", h.machineOf(1, 0), 8);
        due.is("3 lanes of the other", h.machineOf(0, 0), 0);
        due.is("3 numbers begin at 0 in each", h.lane(0, 2, 30, 7, 1, 0), 0);
        int[] told = {2, 30, 7, 0, 1, 0, 0, 0, 0};
        for (int what = 0; what < told.length; what++) {
            due.is("3 laneOf(1, 7, " + what + ")", h.laneOf(1, 7, what), told[what]);
        }
    }

    private static void promise3LaneRefusals() {
        SlotHouse h = new SlotHouse();
        h.machine();
        due.is("3 machine", h.lane(1, 0, 10, 1, 0, 0), -1);
        due.is("3 machine below", h.lane(-1, 0, 10, 1, 0, 0), -1);
        due.is("3 good", h.lane(0, 16, 10, 1, 0, 0), -1);
        due.is("3 good below", h.lane(0, -1, 10, 1, 0, 0), -1);
        due.is("3 good before kind", h.lane(0, 16, 5, 0, 4, 0), -1);
        due.is("3 kind 4", h.lane(0, 0, 10, 1, 4, 0), -2);
        due.is("3 kind below", h.lane(0, 0, 10, 1, -1, 0), -2);
        due.is("3 kind before price", h.lane(0, 0, 5, 1, 4, 0), -2);
        due.is("3 kind before room", h.lane(0, 0, 5010, 21, 4, 0), -2);
        due.is("3 price 0", h.lane(0, 0, 0, 1, 0, 0), -4);
        due.is("3 price below 0", h.lane(0, 0, -10, 1, 0, 0), -4);
        due.is("3 price 9", h.lane(0, 0, 9, 1, 0, 0), -4);
        due.is("3 price 11", h.lane(0, 0, 11, 1, 0, 0), -4);
        due.is("3 price 5005 may not be", h.lane(0, 0, 5005, 1, 0, 0), -4);
        due.is("3 depth 0", h.lane(0, 0, 10, 0, 0, 0), -4);
        due.is("3 depth 0 before price above", h.lane(0, 0, 5010, 0, 0, 0), -4);
        due.is("3 price below before depth above", h.lane(0, 0, 0, 21, 0, 0), -4);
        due.is("3 keep -1", h.lane(0, 0, 10, 1, 2, -1), -4);
        due.is("3 keep -1 before price above", h.lane(0, 0, 5010, 1, 2, -1), -4);
        due.is("3 price 5010", h.lane(0, 0, 5010, 1, 0, 0), -6);
        due.is("3 depth 21", h.lane(0, 0, 10, 21, 0, 0), -6);
        due.is("3 keep 49", h.lane(0, 0, 10, 1, 2, 49), -6);
        due.is("3 no lane came", h.machineOf(0, 0), 0);
        for (int i = 0; i < 8; i++) {
            h.lane(0, 0, 10, 1, 0, 0);
        }
        due.is("3 below before lanes", h.lane(0, 0, 0, 1, 0, 0), -4);
        due.is("3 kind before lanes", h.lane(0, 0, 10, 1, 9, 0), -2);
        due.is("3 count -1", h.count(11), 5);
        due.is("3 count -2", h.count(12), 5);
        due.is("3 count -4", h.count(14), 11);
        due.is("3 count -6", h.count(16), 3);
    }

    private static void promise4Size() {
        SlotHouse h = new SlotHouse();
        due.is("4 needs no machine", h.size(15, 9), 1);
        due.is("4 what it was", h.size(15, 1), 9);
        due.is("4 again", h.size(15, 1), 1);
        due.is("4 another good", h.size(0, 2), 1);
        due.is("4 good below", h.size(-1, 1), -1);
        due.is("4 good above", h.size(16, 1), -1);
        due.is("4 good before v", h.size(16, 0), -1);
        due.is("4 v 0", h.size(0, 0), -4);
        due.is("4 v far below", h.size(0, MIN), -4);
        due.is("4 v 10", h.size(0, 10), -6);
        due.is("4 unchanged", h.size(0, 3), 2);
    }

    private static void promise5Price() {
        SlotHouse h = new SlotHouse();
        h.machine();
        h.lane(0, 0, 50, 5, 0, 0);
        h.lane(0, 0, 60, 5, 0, 0);
        due.is("5 what it was", h.price(0, 0, 5000), 50);
        due.is("5 what it was then", h.price(0, 0, 10), 5000);
        due.is("5 now", h.laneOf(0, 0, 1), 10);
        due.is("5 the other lane", h.laneOf(0, 1, 1), 60);
        due.is("5 machine", h.price(1, 0, 10), -1);
        due.is("5 lane", h.price(0, 2, 10), -1);
        due.is("5 lane below", h.price(0, -1, 10), -1);
        due.is("5 lane before v", h.price(0, 2, 0), -1);
        due.is("5 v 0", h.price(0, 0, 0), -4);
        due.is("5 v 15", h.price(0, 0, 15), -4);
        due.is("5 v 5001", h.price(0, 0, 5001), -4);
        due.is("5 v far below", h.price(0, 0, MIN), -4);
        due.is("5 v 5010", h.price(0, 0, 5010), -6);
        due.is("5 unchanged", h.laneOf(0, 0, 1), 10);
    }

    private static void promise6Tube() {
        SlotHouse h = new SlotHouse();
        h.machine();
        due.is("6 none", h.tube(0, 0, 0), 0);
        due.is("6 30", h.tube(0, 5, 30), 30);
        due.is("6 21 more", h.tube(0, 5, 21), -6);
        due.is("6 20 more", h.tube(0, 5, 20), 50);
        due.is("6 one more", h.tube(0, 5, 1), -6);
        due.is("6 none more", h.tube(0, 5, 0), 50);
        due.is("6 far above", h.tube(0, 5, MAX), -6);
        due.is("6 below", h.tube(0, 5, -1), -4);
        due.is("6 far below", h.tube(0, 5, MIN), -4);
        due.is("6 worth", h.tube(0, 6, 1), -1);
        due.is("6 worth below", h.tube(0, -1, 1), -1);
        due.is("6 worth before n", h.tube(0, 6, -1), -1);
        due.is("6 machine", h.tube(1, 0, 1), -1);
        due.is("6 worth of tubes", h.machineOf(0, 1), 500);
        due.is("6 check", h.check(0), true);
    }

    private static void promise7Stick() {
        SlotHouse h = new SlotHouse();
        h.machine();
        h.lane(0, 0, 50, 5, 1, 0);
        for (int kind : new int[] {0, 2, 3}) {
            h.lane(0, 0, 50, 5, kind, 0);
        }
        due.is("7 none", h.stick(0, 0, 0), 0);
        due.is("7 4", h.stick(0, 0, 4), 4);
        due.is("7 6 more", h.stick(0, 0, 6), -6);
        due.is("7 5 more", h.stick(0, 0, 5), 9);
        due.is("7 one more", h.stick(0, 0, 1), -6);
        due.is("7 far above", h.stick(0, 0, MAX), -6);
        due.is("7 below", h.stick(0, 0, -1), -4);
        due.is("7 far below", h.stick(0, 0, MIN), -4);
        for (int lane = 1; lane <= 3; lane++) {
            due.is("7 another kind", h.stick(0, lane, 1), -2);
            due.is("7 kind before n", h.stick(0, lane, -1), -2);
        }
        due.is("7 lane", h.stick(0, 4, 1), -1);
        due.is("7 machine", h.stick(1, 0, 1), -1);
        due.is("7 unchanged", h.stick(0, 0, 0), 9);
    }

    private static void promise8Shut() {
        SlotHouse h = new SlotHouse();
        h.machine();
        h.lane(0, 0, 50, 5, 1, 0);
        h.fill(0, 0, 2);
        due.is("8 not shut at first", h.shut(0, 0, false), false);
        due.is("8 shut", h.shut(0, 0, true), true);
        due.is("8 shut already", h.shut(0, 0, true), false);
        due.is("8 told", h.laneOf(0, 0, 5), 1);
        due.is("8 does not sell", h.laneOf(0, 0, 8), 0);
        due.is("8 open", h.shut(0, 0, false), true);
        due.is("8 told open", h.laneOf(0, 0, 5), 0);
        due.is("8 sells", h.laneOf(0, 0, 8), 1);
        h.stick(0, 0, 2);
        for (int i = 0; i < 2; i++) {
            h.insert(0, 3);
            h.choose(0, 0);
        }
        due.is("8 was open", h.shut(0, 0, false), false);
        due.is("8 misses stay if it was so", h.laneOf(0, 0, 6), 2);
        due.is("8 shut with misses", h.shut(0, 0, true), true);
        due.is("8 misses stay when shut", h.laneOf(0, 0, 6), 2);
        due.is("8 open again", h.shut(0, 0, false), true);
        due.is("8 misses 0 then", h.laneOf(0, 0, 6), 0);
        due.is("8 no lane", h.shut(0, 1, true), false);
        due.is("8 lane below", h.shut(0, -1, true), false);
        due.is("8 no machine", h.shut(1, 0, true), false);
        due.is("8 false is no refusal", h.count(11), 0);
    }

    private static void promise9Power() {
        SlotHouse h = new SlotHouse();
        h.machine();
        h.machine();
        due.is("9 on at first", h.power(0, true), false);
        due.is("9 off", h.power(0, false), true);
        due.is("9 off already", h.power(0, false), false);
        h.hours(2);
        due.is("9 hours off", h.machineOf(0, 8), 2);
        due.is("9 off already, later", h.power(0, false), false);
        due.is("9 hours off stay", h.machineOf(0, 8), 2);
        due.is("9 the other is on", h.machineOf(1, 8), 0);
        due.is("9 on", h.power(0, true), true);
        due.is("9 no hours off", h.machineOf(0, 8), 0);
        due.is("9 off anew", h.power(0, false), true);
        h.hours(1);
        due.is("9 hours off anew", h.machineOf(0, 8), 1);
        due.is("9 no machine", h.power(2, false), false);
        due.is("9 machine below", h.power(-1, false), false);
        due.is("9 false is no refusal", h.count(11), 0);
    }
}
