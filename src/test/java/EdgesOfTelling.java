/** Promises 19 to 29: what is counted, foretold, loaded and told. */
final class EdgesOfTelling {
    private static final int MAX = Integer.MAX_VALUE;
    private static final int GOOD = Houses.GOOD;

    private EdgesOfTelling() {
    }

    static void run(Edges e) {
        promise19Counted(e);
        promise20Foretell(e);
        promise21When(e);
        promise22Load(e);
        promise22AfterAnotherLoad(e);
        promise23Loaded(e);
        promise23Beyond(e);
        promise24LaneOf(e);
        promise25MachineOf(e);
        promise25ShrinkBelow0(e);
        promise26TubeOf(e);
        promise27Collect(e);
        promise28CheckGoods(e);
        promise28CheckCoins(e);
        promise29Count(e);
    }

    private static void promise19Counted(Edges e) {
        e.sentence(19, "Of a MACHINE, GOOD and HOUR OF DAY: 0 what was COUNTED, 1 HOURS in which it was THERE.");
        SlotHouse h = Houses.machines(6);
        h.lane(5, 15, 50, 5, Houses.PLAIN, 0);
        e.is("no sale yet", h.counted(5, 15, 0, 0), 0);
        e.is("no HOUR yet", h.counted(5, 15, 0, 1), 0);
        h.fill(5, 0, 5);
        h.hours(23);
        Houses.buy(h, 5, 0, 3);
        Houses.buy(h, 5, 0, 3);
        h.hours(1);
        e.is("COUNTED at 23", h.counted(5, 15, 23, 0), 2);
        e.is("THERE at 23", h.counted(5, 15, 23, 1), 1);
        e.is("COUNTED at 0", h.counted(5, 15, 0, 0), 0);
        e.is("THERE at 0", h.counted(5, 15, 0, 1), 1);
        e.is("GOOD 0", h.counted(5, 0, 23, 0), 0);
        e.is("MACHINE 0", h.counted(0, 15, 23, 0), 0);
        e.is("what 2", h.counted(5, 15, 23, 2), -2);
        e.is("what -1", h.counted(5, 15, 23, -1), -2);
        e.is("HOUR OF DAY 24", h.counted(5, 15, 24, 0), -6);
        e.is("HOUR OF DAY -1", h.counted(5, 15, -1, 0), -4);
    }

    private static void promise20Foretell(Edges e) {
        e.sentence(20, "FORETOLD for n HOURS (0 .. 240).");
        SlotHouse h = Houses.lane(10, 20, Houses.PLAIN, 20);
        e.is("no sale yet", h.foretell(0, GOOD, 240), 0);
        Houses.buy(h, 0, 0, 5);
        h.hours(24);
        e.is("0", h.foretell(0, GOOD, 0), 0);
        e.is("1", h.foretell(0, GOOD, 1), 1000);
        e.is("216", h.foretell(0, GOOD, 216), 9000);
        e.is("217", h.foretell(0, GOOD, 217), 10000);
        e.is("240", h.foretell(0, GOOD, 240), 10000);
        e.is("241", h.foretell(0, GOOD, 241), -6);
        e.is("-1", h.foretell(0, GOOD, -1), -4);
        e.is("a GOOD without a LANE", h.foretell(0, 15, 240), 0);
        h.hours(2976);
        e.is("at the last HOUR, 3000", h.foretell(0, GOOD, 240), 80);
    }

    private static void promise21When(Edges e) {
        e.sentence(21, "EMPTY of a LANE;");
        SlotHouse h = Houses.machines(1);
        for (int lane = 0; lane < 8; lane++) {
            h.lane(0, 15, 10, 20, Houses.PLAIN, 0);
        }
        e.is("without STOCK", h.when(0, 7), 0);
        h.fill(0, 7, 3);
        e.is("without a sale", h.when(0, 0), -9);
        Houses.buy(h, 0, 7, 5);
        e.is("without an HOUR", h.when(0, 0), -9);
        h.hours(24);
        e.is("two pieces", h.when(0, 0), 25);
        e.is("of the last LANE the same", h.when(0, 7), 25);
        h.found(0, 7, 0);
        e.is("STOCK 0", h.when(0, 7), 0);
    }

    private static void promise22Load(Edges e) {
        e.sentence(22, "LOAD: its worth.");
        SlotHouse h = Houses.machines(1);
        e.is("no LANES, no room", h.load(0, 0), 0);
        e.is("no LANES", h.load(0, 200), 0);
        h.lane(0, 0, 10, 20, Houses.PLAIN, 0);
        h.lane(0, 1, 5000, 20, Houses.PLAIN, 0);
        e.is("room 0", h.load(0, 0), 0);
        e.is("room 1", h.load(0, 1), 5000);
        e.is("room 20", h.load(0, 20), 100000);
        e.is("room 21", h.load(0, 21), 100010);
        e.is("room 40", h.load(0, 40), 100200);
        e.is("room 200", h.load(0, 200), 100200);
        e.is("a load changes no STOCK", h.laneOf(0, 1, 3), 0);
    }

    private static void promise23Loaded(Edges e) {
        e.sentence(23, "How many pieces the latest load() that was not refused has for a LANE (of that MACHINE then);");
        SlotHouse h = Houses.machines(2);
        h.lane(0, 0, 10, 5, Houses.PLAIN, 0);
        h.lane(1, 0, 10, 3, Houses.PLAIN, 0);
        e.is("no load yet", h.loaded(0), 0);
        h.load(0, 200);
        e.is("of MACHINE 0", h.loaded(0), 5);
        h.load(1, 201);
        h.load(1, -1);
        h.load(2, 10);
        e.is("refused ones are none", h.loaded(0), 5);
        h.fill(0, 0, 5);
        h.shut(0, 0, true);
        e.is("as it was then", h.loaded(0), 5);
        h.load(1, 200);
        e.is("of MACHINE 1", h.loaded(0), 3);
        h.load(1, 0);
        e.is("a load without room", h.loaded(0), 0);
    }

    private static void promise22AfterAnotherLoad(Edges e) {
        e.sentence(22, "LOAD: its worth.");
        SlotHouse h = Houses.machines(2);
        for (int lane = 0; lane < 8; lane++) {
            h.lane(0, 0, 5000 - 10 * lane, 20, Houses.PLAIN, 0);
        }
        h.lane(1, 1, 10, 20, Houses.PLAIN, 0);
        h.size(1, 9);
        e.is("eight LANES", h.load(0, 200), 20 * (8 * 5000 - 280));
        e.is("then one LANE", h.load(1, 200), 200);
        e.is("20 for it", h.loaded(0), 20);
        e.is("then none", Houses.machines(1).load(0, 200), 0);
        e.is("and eight again", h.load(0, 21), 20 * 5000 + 4990);
    }

    private static void promise23Beyond(Edges e) {
        e.sentence(23, "0 for what is beyond.");
        SlotHouse h = Houses.machines(2);
        for (int lane = 0; lane < 8; lane++) {
            h.lane(0, 0, 10, 1, Houses.PLAIN, 0);
        }
        h.lane(1, 0, 10, 1, Houses.PLAIN, 0);
        h.load(0, 200);
        e.is("the eighth", h.loaded(7), 1);
        e.is("a ninth", h.loaded(8), 0);
        e.is("far beyond", h.loaded(MAX), 0);
        h.load(1, 200);
        e.is("the first of one", h.loaded(0), 1);
        for (int lane = 1; lane <= 8; lane++) {
            e.is("beyond the only LANE", h.loaded(lane), 0);
        }
        h.lane(1, 0, 10, 1, Houses.PLAIN, 0);
        e.is("a LANE that came later", h.loaded(1), 0);
    }

    private static void promise24LaneOf(Edges e) {
        e.sentence(24, "Of a LANE: 0 GOOD, 1 PRICE, 2 DEPTH, 3 STOCK, 4 KIND, 5 1 if it is SHUT, 6 MISSES,"
            + " 7 1 if it is SPOILED, 8 1 if it SELLS.");
        SlotHouse h = Houses.machines(1);
        h.lane(0, 15, 50, 20, Houses.SPIRAL, 0);
        h.lane(0, 0, 5000, 1, Houses.COLD, 0);
        h.fill(0, 0, 20);
        h.fill(0, 1, 1);
        h.stick(0, 0, 3);
        tell(e, h, 0, 15, 50, 20, 20, 1, 0, 0, 0, 1);
        tell(e, h, 1, 0, 5000, 1, 1, 2, 0, 0, 0, 1);
        for (int miss = 1; miss <= 3; miss++) {
            Houses.buy(h, 0, 0, 3);
        }
        Houses.off(h, 1);
        tell(e, h, 0, 15, 50, 20, 20, 1, 1, 3, 0, 0);
        tell(e, h, 1, 0, 5000, 1, 1, 2, 0, 0, 1, 0);
        e.is("9", h.laneOf(0, 0, 9), -2);
        e.is("-1", h.laneOf(0, 0, -1), -2);
    }

    private static void tell(Edges e, SlotHouse h, int lane, int... want) {
        for (int what = 0; what < want.length; what++) {
            e.is("LANE " + lane + ", what " + what, h.laneOf(0, lane, what), want[what]);
        }
    }

    private static void promise25MachineOf(Edges e) {
        e.sentence(25, "Of a MACHINE: 0 LANES, 1 worth of TUBES, 2 of the BOX, 3 of what is IN, 4 SHRINK, 5 WASTE,"
            + " 6 goods sold, 7 goods that were filled, 8 HOURS for which POWER is off (0 if it is on).");
        SlotHouse h = Houses.lane(10, 20, Houses.PLAIN, 20);
        h.tube(0, 5, 50);
        Houses.buy(h, 0, 0, 5);
        h.found(0, 0, 15);
        h.lane(0, 0, 10, 20, Houses.PLAIN, 0);
        h.fill(0, 1, 2);
        h.empty(0, 1);
        h.insert(0, 0);
        Houses.off(h, 3);
        int[] want = {2, 500, 10, 500, 4, 2, 1, 22, 3};
        for (int what = 0; what < want.length; what++) {
            e.is("what " + what, h.machineOf(0, what), want[what]);
        }
        h.power(0, true);
        e.is("POWER is on", h.machineOf(0, 8), 0);
        e.is("the most that TUBES have", fullTubes().machineOf(0, 1), 44000);
    }

    private static SlotHouse fullTubes() {
        SlotHouse h = Houses.machines(1);
        for (int w = 0; w < 6; w++) {
            h.tube(0, w, 50);
        }
        return h;
    }

    private static void promise25ShrinkBelow0(Edges e) {
        e.sentence(25, "(SHRINK may be below 0: this one tells REFUSALS as 1000000000 less them: -1 as 1000000001.)");
        SlotHouse h = Houses.lane(10, 20, Houses.PLAIN, 0);
        for (int shrink = -1; shrink >= -7; shrink--) {
            h.found(0, 0, -shrink);
            e.is("SHRINK " + shrink, h.machineOf(0, 4), shrink);
        }
        e.is("it is no REFUSAL", h.count(11) + h.count(12), 0);
        e.is("no such MACHINE", h.machineOf(1, 4), 1000000001);
        e.is("no such what", h.machineOf(0, 9), 1000000002);
        e.is("-1 is counted", h.count(11), 1);
        e.is("-2 is counted", h.count(12), 1);
    }

    private static void promise26TubeOf(Edges e) {
        e.sentence(26, "Coins of a WORTH in a TUBE.");
        SlotHouse h = Houses.machines(6);
        e.is("none", h.tubeOf(5, 0), 0);
        h.tube(5, 0, 50);
        h.tube(5, 5, 1);
        h.insert(5, 0);
        e.is("50", h.tubeOf(5, 0), 50);
        e.is("1", h.tubeOf(5, 5), 1);
        e.is("WORTH 1", h.tubeOf(5, 1), 0);
        e.is("MACHINE 0", h.tubeOf(0, 0), 0);
        e.is("WORTH 6", h.tubeOf(5, 6), -1);
        e.is("WORTH -1", h.tubeOf(5, -1), -1);
    }

    private static void promise27Collect(Edges e) {
        e.sentence(27, "The BOX is emptied: its worth.");
        SlotHouse h = Houses.lane(10, 20, Houses.PLAIN, 20);
        h.tube(0, 5, 50);
        e.is("an empty BOX", h.collect(0), 0);
        Houses.buy(h, 0, 0, 5);
        h.insert(0, 4);
        e.is("one coin", h.collect(0), 10);
        e.is("empty again", h.collect(0), 0);
        e.is("the BOX", h.machineOf(0, 2), 0);
        e.is("TUBES stay", h.machineOf(0, 1), 500);
        e.is("what is IN stays", h.machineOf(0, 3), 20);
        e.is("every coin is known", h.check(0), true);
        int[] worths = {500, 200, 100, 50, 20, 10};
        for (int w = 0; w < 6; w++) {
            SlotHouse full = Houses.lane(worths[w], 1, Houses.PLAIN, 1);
            full.tube(0, w, 50);
            Houses.buy(full, 0, 0, w);
            e.is("a coin of WORTH " + w, full.collect(0), worths[w]);
            e.is("none more of WORTH " + w, full.collect(0), 0);
        }
    }

    private static void promise28CheckGoods(Edges e) {
        e.sentence(28, "Whether for a MACHINE all goods that were filled are sold, in LANES, WASTE or SHRINK,");
        SlotHouse h = Houses.machines(1);
        e.is("nothing yet", h.check(0), true);
        h.lane(0, GOOD, 10, 20, Houses.TWIN, 0);
        h.lane(0, GOOD, 10, 20, Houses.COLD, 0);
        h.fill(0, 0, 1);
        h.fill(0, 1, 20);
        e.is("in LANES", h.check(0), true);
        Houses.buy(h, 0, 0, 5);
        Houses.buy(h, 0, 0, 5);
        e.is("sold, one of the next LANE", h.check(0), true);
        h.found(0, 0, 20);
        e.is("SHRINK below 0", h.check(0), true);
        h.found(0, 0, 0);
        h.found(0, 1, 1);
        e.is("SHRINK above 0", h.check(0), true);
        Houses.off(h, 1);
        e.is("SPOILED", h.check(0), true);
        h.empty(0, 1);
        e.is("WASTE", h.check(0), true);
        e.is("all by their numbers", h.machineOf(0, 7), h.machineOf(0, 4) + h.machineOf(0, 5) + h.machineOf(0, 6));
    }

    private static void promise28CheckCoins(Edges e) {
        e.sentence(28, "and all coins that came are in TUBES, the BOX, IN, were given back, given, or collected,"
            + " worth by worth.");
        SlotHouse h = Houses.lane(10, 20, Houses.SPIRAL, 20);
        h.tube(0, 5, 50);
        e.is("in TUBES", h.check(0), true);
        Houses.insert(h, 0, 5, 20);
        e.is("IN", h.check(0), true);
        h.back(0);
        e.is("given back", h.check(0), true);
        h.stick(0, 0, 1);
        Houses.buy(h, 0, 0, 4);
        e.is("given back by a miss", h.check(0), true);
        Houses.buy(h, 0, 0, 4, 5);
        e.is("given", h.check(0), true);
        Houses.buy(h, 0, 0, 5);
        e.is("in the BOX", h.check(0), true);
        h.collect(0);
        e.is("collected", h.check(0), true);
        e.is("refused", h.insert(0, 6), -1);
        e.is("as before", h.check(0), true);
    }

    private static void promise29Count(Edges e) {
        e.sentence(29, "0 HOUR, 1 MACHINES, 2 goods sold of all, 3 times nothing fell, 11 .. 16 REFUSALS -1 .. -6.");
        SlotHouse h = Houses.machines(6);
        for (int m : new int[] {0, 5}) {
            h.lane(m, 0, 50, 5, Houses.SPIRAL, 0);
            h.fill(m, 0, 5);
            Houses.buy(h, m, 0, 3);
            h.stick(m, 0, 1);
            Houses.buy(h, m, 0, 3);
        }
        h.hours(3000);
        e.is("HOUR", h.count(0), 3000);
        e.is("MACHINES", h.count(1), 6);
        e.is("goods sold of all", h.count(2), 2);
        e.is("times nothing fell", h.count(3), 2);
        for (int what = 11; what <= 16; what++) {
            e.is("none, count(" + what + ")", h.count(what), 0);
        }
        h.back(6);
        h.laneOf(0, 0, 9);
        h.shut(0, 0, true);
        h.choose(0, 0);
        h.hours(0);
        h.choose(5, 0);
        h.hours(1);
        for (int what = 11; what <= 16; what++) {
            e.is("one each, count(" + what + ")", h.count(what), 1);
        }
        for (int what : new int[] {-1, 4, 5, 9, 10, 17, Houses.MIN, MAX}) {
            e.is("count(" + what + ")", h.count(what), -9);
        }
    }
}
