/** Promises 1 to 9: the least and the greatest that is taken, and what is empty at first. */
final class EdgesOfSetup {
    private static final int MIN = Integer.MIN_VALUE;
    private static final int MAX = Integer.MAX_VALUE;

    private EdgesOfSetup() {
    }

    static void run(Edges e) {
        promise1NoMachines(e);
        promise2MachineIsEmpty(e);
        promise3LeastAndGreatest(e);
        promise3KeepForColdAlone(e);
        promise4Size1To9(e);
        promise5Price10To5000(e);
        promise6Tube0To50(e);
        promise7Stick0To9(e);
        promise8Shut(e);
        promise9Power(e);
    }

    private static void promise1NoMachines(Edges e) {
        e.sentence(1, "No MACHINES.");
        SlotHouse h = new SlotHouse();
        e.is("MACHINES", h.count(1), 0);
        e.is("HOUR", h.count(0), 0);
        e.is("goods sold of all", h.count(2), 0);
        e.is("times nothing fell", h.count(3), 0);
        e.is("given", h.given(0), 0);
        e.is("loaded", h.loaded(0), 0);
        e.is("check(0)", h.check(0), false);
        e.is("power(0)", h.power(0, false), false);
        e.is("shut(0, 0)", h.shut(0, 0, true), false);
        e.is("no REFUSAL yet", h.count(11), 0);
        e.is("lane", h.lane(0, 0, 10, 1, 0, 0), -1);
        e.is("price", h.price(0, 0, 10), -1);
        e.is("tube", h.tube(0, 0, 0), -1);
        e.is("stick", h.stick(0, 0, 0), -1);
        e.is("fill", h.fill(0, 0, 0), -1);
        e.is("found", h.found(0, 0, 0), -1);
        e.is("empty", h.empty(0, 0), -1);
        e.is("insert", h.insert(0, 0), -1);
        e.is("back", h.back(0), -1);
        e.is("choose", h.choose(0, 0), -1);
        e.is("change", h.change(0, 0), -1);
        e.is("counted", h.counted(0, 0, 0, 0), -1);
        e.is("foretell", h.foretell(0, 0, 0), -1);
        e.is("when", h.when(0, 0), -1);
        e.is("load", h.load(0, 0), -1);
        e.is("laneOf", h.laneOf(0, 0, 0), -1);
        e.is("machineOf", h.machineOf(0, 0), 1000000001);
        e.is("tubeOf", h.tubeOf(0, 0), -1);
        e.is("collect", h.collect(0), -1);
        e.is("REFUSALS", h.count(11), 19);
        e.is("sizes are there without MACHINES", h.size(15, 9), 1);
        e.is("HOURS pass without MACHINES", h.hours(1), 1);
    }

    private static void promise2MachineIsEmpty(Edges e) {
        e.sentence(2, "A MACHINE, TUBES and BOX empty: its number.");
        SlotHouse h = new SlotHouse();
        for (int m = 0; m < 6; m++) {
            e.is("its number", h.machine(), m);
            for (int w = 0; w < 6; w++) {
                e.is("TUBE " + w, h.tubeOf(m, w), 0);
            }
            for (int what = 0; what <= 8; what++) {
                e.is("machineOf " + what, h.machineOf(m, what), 0);
            }
            e.is("no CHANGE", h.change(m, 10), -9);
            h.tube(m, 5, 50);
            h.hours(1);
        }
        e.is("MACHINES", h.count(1), 6);
        e.is("a seventh", h.machine(), -6);
        e.is("MACHINES still", h.count(1), 6);
    }

    private static void promise3LeastAndGreatest(Edges e) {
        e.sentence(3, "A LANE more: its number.");
        SlotHouse h = Houses.machines(6);
        e.is("all at the least, first MACHINE", h.lane(0, 0, 10, 1, 0, 0), 0);
        e.is("all at the greatest, last MACHINE", h.lane(5, 15, 5000, 20, 3, 48), 0);
        e.is("COLD, KEEP 0", h.lane(5, 15, 5000, 20, 2, 0), 1);
        e.is("COLD, KEEP 48", h.lane(5, 15, 5000, 20, 2, 48), 2);
        int[] least = {0, 10, 1, 0, 0, 0, 0, 0, 0};
        int[] greatest = {15, 5000, 20, 0, 3, 0, 0, 0, 0};
        for (int what = 0; what <= 8; what++) {
            e.is("the least one's " + what, h.laneOf(0, 0, what), least[what]);
            e.is("the greatest one's " + what, h.laneOf(5, 0, what), greatest[what]);
        }
        e.is("LANES", h.machineOf(5, 0), 3);
        e.is("refused, the next number stays", h.lane(5, 15, 5010, 20, 0, 0), -6);
        e.is("the next number", h.lane(5, 15, 5000, 20, 0, 0), 3);
    }

    private static void promise3KeepForColdAlone(Edges e) {
        e.sentence(3, "keep below 0 (looked at for COLD alone)");
        for (int kind : new int[] {0, 1, 3}) {
            int[] keeps = {-1, MIN, 49, MAX};
            SlotHouse h = Houses.machines(1);
            for (int i = 0; i < keeps.length; i++) {
                e.is("KIND " + kind + ", keep " + keeps[i], h.lane(0, 0, 10, 1, kind, keeps[i]), i);
            }
        }
    }

    private static void promise4Size1To9(Edges e) {
        e.sentence(4, "The size of a GOOD: what it was.");
        SlotHouse h = new SlotHouse();
        for (int good = 0; good < 16; good++) {
            e.is("1 at first", h.size(good, 9), 1);
        }
        for (int good = 0; good < 16; good++) {
            e.is("9 then", h.size(good, 1), 9);
        }
        e.is("1 again", h.size(0, 1), 1);
        e.is("0", h.size(0, 0), -4);
        e.is("10", h.size(0, 10), -6);
        e.is("1 still", h.size(0, 2), 1);
        e.is("2 then", h.size(0, 8), 2);
        e.is("8 then", h.size(0, 8), 8);
    }

    private static void promise5Price10To5000(Edges e) {
        e.sentence(5, "PRICE of a LANE: what it was.");
        SlotHouse h = Houses.lane(20, 5, Houses.PLAIN, 5);
        e.is("the least", h.price(0, 0, 10), 20);
        e.is("the greatest", h.price(0, 0, 5000), 10);
        e.is("beyond", h.price(0, 0, 5010), -6);
        e.is("no multiple", h.price(0, 0, 4999), -4);
        e.is("the greatest still", h.price(0, 0, 30), 5000);
        e.is("not paid", Houses.buy(h, 0, 0, 4), -5);
        e.is("PRICE of now is paid", Houses.buy(h, 0, 0, 5), 0);
        h.shut(0, 0, true);
        e.is("of a SHUT one too", h.price(0, 0, 40), 30);
    }

    private static void promise6Tube0To50(Edges e) {
        e.sentence(6, "n coins of a WORTH come into a TUBE: how many it has.");
        SlotHouse h = Houses.machines(1);
        e.is("none", h.tube(0, 0, 0), 0);
        e.is("one", h.tube(0, 0, 1), 1);
        e.is("50 more", h.tube(0, 0, 50), -6);
        e.is("49 more", h.tube(0, 0, 49), 50);
        e.is("none more", h.tube(0, 0, 0), 50);
        e.is("one more", h.tube(0, 0, 1), -6);
        e.is("50 at once", h.tube(0, 5, 50), 50);
        e.is("51 at once", h.tube(0, 4, 51), -6);
        e.is("worth of TUBES", h.machineOf(0, 1), 25500);
        e.is("every coin is known", h.check(0), true);
        h.insert(0, 0);
        e.is("what is IN is in no TUBE", h.tubeOf(0, 0), 50);
    }

    private static void promise7Stick0To9(Edges e) {
        e.sentence(7, "A SPIRAL is to STICK n times more (0 .. 9): how many times.");
        SlotHouse h = Houses.lane(50, 5, Houses.SPIRAL, 5);
        e.is("0", h.stick(0, 0, 0), 0);
        e.is("10 at once", h.stick(0, 0, 10), -6);
        e.is("9 at once", h.stick(0, 0, 9), 9);
        e.is("none more", h.stick(0, 0, 0), 9);
        e.is("one more", h.stick(0, 0, 1), -6);
        Houses.buy(h, 0, 0, 3);
        e.is("after a miss one more", h.stick(0, 0, 1), 9);
        SlotHouse g = Houses.lane(50, 5, Houses.SPIRAL, 5);
        e.is("4", g.stick(0, 0, 4), 4);
        e.is("6 more", g.stick(0, 0, 6), -6);
        e.is("5 more", g.stick(0, 0, 5), 9);
    }

    private static void promise8Shut(Edges e) {
        e.sentence(8, "A LANE is SHUT, or not any more (MISSES 0 then): true;");
        SlotHouse h = Houses.lane(50, 5, Houses.SPIRAL, 5);
        h.stick(0, 0, 5);
        Houses.buy(h, 0, 0, 3);
        Houses.buy(h, 0, 0, 3);
        e.is("it was not SHUT", h.shut(0, 0, false), false);
        e.is("MISSES stay", h.laneOf(0, 0, 6), 2);
        e.is("SHUT", h.shut(0, 0, true), true);
        e.is("MISSES stay when it is SHUT", h.laneOf(0, 0, 6), 2);
        e.is("it was SHUT", h.shut(0, 0, true), false);
        e.is("not any more", h.shut(0, 0, false), true);
        e.is("MISSES 0 then", h.laneOf(0, 0, 6), 0);
        for (int miss = 1; miss <= 3; miss++) {
            e.is("SHUT by miss " + miss, h.laneOf(0, 0, 5), 0);
            Houses.buy(h, 0, 0, 3);
        }
        e.is("SHUT by the third", h.laneOf(0, 0, 5), 1);
        e.is("not any more again", h.shut(0, 0, false), true);
        e.is("MISSES 0 again", h.laneOf(0, 0, 6), 0);
        e.is("it was so", h.shut(0, 0, false), false);
        e.is("it is to STICK no more", Houses.buy(h, 0, 0, 3), 0);
    }

    private static void promise9Power(Edges e) {
        e.sentence(9, "POWER on or off: true;");
        SlotHouse h = Houses.machines(2);
        e.is("on at first", h.power(0, true), false);
        e.is("off", h.power(0, false), true);
        e.is("off for 0 HOURS", h.machineOf(0, 8), 0);
        e.is("it was off", h.power(0, false), false);
        h.hours(2994);
        e.is("off for 2994 HOURS", h.machineOf(0, 8), 2994);
        e.is("the other is on", h.machineOf(1, 8), 0);
        e.is("on", h.power(0, true), true);
        e.is("it is on", h.machineOf(0, 8), 0);
        h.hours(1);
        e.is("on for an HOUR", h.machineOf(0, 8), 0);
        e.is("off again", h.power(0, false), true);
        h.hours(1);
        e.is("off for one HOUR anew", h.machineOf(0, 8), 1);
    }
}
