/** Terms: HOURS and calls, WORTHS and TUBES, LANES and their KINDS. */
final class EdgesOfLanes {
    private static final int[] WORTHS = {500, 200, 100, 50, 20, 10};

    private EdgesOfLanes() {
    }

    static void run(Edges e) {
        hoursGoOnTo3000(e);
        hourOfDayWrapsAround(e);
        the512thCallStillHolds(e);
        sixWorths(e);
        sixMachines(e);
        tubesOf0To50(e);
        boxOfAnyNumber(e);
        coinsInAreOfOneMachine(e);
        powerIsOnAtFirst(e);
        eightLanes(e);
        goods0To15(e);
        prices10To5000(e);
        depths1To20(e);
        noStockAtFirst(e);
        kindsAreTold(e);
        keeps0To48(e);
        twinSellsItsOwnFirst(e);
        twinIsServedByTheNext(e);
        kind4IsNone(e);
        laneIsShut(e);
        laneSells(e);
        shutLaneDoesNotSell(e);
        twinSells(e);
        spoiledDoesNotSell(e);
    }

    private static void hoursGoOnTo3000(Edges e) {
        e.terms("HOURS go on from 0 (3000 at most)");
        SlotHouse h = new SlotHouse();
        e.is("HOUR at first", h.count(0), 0);
        e.is("to 2999", h.hours(2999), 2999);
        e.is("two more", h.hours(2), -6);
        e.is("the last", h.hours(1), 3000);
        e.is("one more", h.hours(1), -6);
        e.is("HOUR at last", h.count(0), 3000);
        e.is("3000 at once", new SlotHouse().hours(3000), 3000);
        e.is("3001 at once", new SlotHouse().hours(3001), -6);
    }

    private static void hourOfDayWrapsAround(Edges e) {
        e.terms("the HOUR OF DAY is HOUR modulo 24.");
        SlotHouse h = Houses.lane(10, 20, Houses.PLAIN, 20);
        h.hours(23);
        Houses.buy(h, 0, 0, 5);
        e.is("HOUR 23", h.counted(0, Houses.GOOD, 23, 0), 1);
        h.hours(1);
        Houses.buy(h, 0, 0, 5);
        e.is("HOUR 24 is 0 again", h.counted(0, Houses.GOOD, 0, 0), 1);
        e.is("HOUR 24 is not 23", h.counted(0, Houses.GOOD, 23, 0), 1);
        h.hours(23);
        Houses.buy(h, 0, 0, 5);
        e.is("HOUR 47 is 23 again", h.counted(0, Houses.GOOD, 23, 0), 2);
        h.hours(2952);
        Houses.buy(h, 0, 0, 5);
        e.is("HOUR 2999 is 23", h.counted(0, Houses.GOOD, 23, 0), 3);
        h.hours(1);
        Houses.buy(h, 0, 0, 5);
        e.is("HOUR 3000 is 0", h.counted(0, Houses.GOOD, 0, 0), 2);
    }

    private static void the512thCallStillHolds(Edges e) {
        e.terms("An object is used for at most 512 calls after it has been made; what later calls answer is free.");
        SlotHouse h = new SlotHouse();
        h.machine();
        for (int call = 2; call < 512; call += 2) {
            e.is("call " + call, h.insert(0, 5), 10);
            e.is("call " + (call + 1), h.back(0), 10);
        }
        e.is("call 512", h.check(0), true);
    }

    private static void sixWorths(Edges e) {
        e.terms("WORTHS of coins: 500, 200, 100, 50, 20, 10, numbered 0 to 5.");
        SlotHouse h = Houses.machines(1);
        for (int w = 0; w < 6; w++) {
            e.is("WORTH " + w, h.insert(0, w), WORTHS[w]);
            h.back(0);
        }
        e.is("WORTH 6", h.insert(0, 6), -1);
        e.is("WORTH -1", h.insert(0, -1), -1);
        e.is("none came", h.machineOf(0, 3), 0);
    }

    private static void sixMachines(Edges e) {
        e.terms("MACHINES have numbers from 0 on (6 at most)");
        SlotHouse h = new SlotHouse();
        e.is("number 0 before it is made", h.back(0), -1);
        for (int i = 0; i < 6; i++) {
            e.is("the next number", h.machine(), i);
            e.is("the number behind it", h.back(i + 1), -1);
        }
        e.is("a seventh", h.machine(), -6);
        e.is("number 5", h.back(5), 0);
        e.is("number 6", h.back(6), -1);
        e.is("number -1", h.back(-1), -1);
    }

    private static void tubesOf0To50(Edges e) {
        e.terms("each has for each WORTH a TUBE (0 .. 50 coins)");
        SlotHouse h = Houses.machines(2);
        for (int w = 0; w < 6; w++) {
            e.is("none at first", h.tubeOf(0, w), 0);
            e.is("50", h.tube(0, w, 50), 50);
            e.is("one more", h.tube(0, w, 1), -6);
            e.is("50 stay", h.tubeOf(0, w), 50);
            e.is("the other MACHINE's", h.tubeOf(1, w), 0);
            e.is("49, then", h.tube(1, w, 49), 49);
            e.is("two are too many", h.tube(1, w, 2), -6);
            e.is("one is not", h.tube(1, w, 1), 50);
            h.collect(1);
        }
        e.is("all TUBES", h.machineOf(0, 1), 880 * 50);
    }

    private static void boxOfAnyNumber(Edges e) {
        e.terms("a BOX (any number)");
        SlotHouse h = Houses.lane(200, 20, Houses.PLAIN, 20);
        h.tube(0, 5, 50);
        for (int sale = 1; sale <= 15; sale++) {
            Houses.insert(h, 0, 5, 20);
            h.choose(0, 0);
            e.is("20 coins more in the BOX", h.machineOf(0, 2), 200 * sale);
        }
        e.is("300 coins", h.collect(0), 3000);
    }

    private static void coinsInAreOfOneMachine(Edges e) {
        e.terms("and the coins that are IN (of the customer at hand);");
        SlotHouse h = Houses.machines(2);
        h.lane(1, 0, 10, 1, Houses.PLAIN, 0);
        h.fill(1, 0, 1);
        h.insert(0, 5);
        e.is("IN of the other MACHINE", h.machineOf(1, 3), 0);
        e.is("it does not pay there", h.choose(1, 0), -5);
        e.is("nothing comes back there", h.back(1), 0);
        Houses.insert(h, 0, 5, 19);
        e.is("20 here are none there", h.insert(1, 5), 10);
        e.is("IN here", h.machineOf(0, 3), 200);
    }

    private static void powerIsOnAtFirst(Edges e) {
        e.terms("POWER (on at first).");
        SlotHouse h = Houses.machines(1);
        e.is("it was on", h.power(0, true), false);
        h.hours(1);
        e.is("off for no HOUR", h.machineOf(0, 8), 0);
        e.is("it is not off", h.power(0, false), true);
    }

    private static void eightLanes(Edges e) {
        e.terms("LANES of a MACHINE, from 0 on (8 at most):");
        SlotHouse h = Houses.machines(2);
        e.is("number 0 before it is made", h.empty(0, 0), -1);
        for (int i = 0; i < 8; i++) {
            e.is("the next number", h.lane(0, i, 10, 1, Houses.PLAIN, 0), i);
            e.is("the number behind it", h.empty(0, i + 1), -1);
        }
        e.is("a ninth", h.lane(0, 8, 10, 1, Houses.PLAIN, 0), -6);
        e.is("LANES", h.machineOf(0, 0), 8);
        e.is("number 7", h.laneOf(0, 7, 0), 7);
        e.is("number 8", h.laneOf(0, 8, 0), -1);
        e.is("the other MACHINE begins at 0", h.lane(1, 8, 10, 1, Houses.PLAIN, 0), 0);
    }

    private static void goods0To15(Edges e) {
        e.terms("a GOOD (0 .. 15, told by its number alone)");
        SlotHouse h = Houses.machines(2);
        e.is("GOOD 0", h.lane(0, 0, 10, 1, Houses.PLAIN, 0), 0);
        e.is("GOOD 15", h.lane(0, 15, 10, 1, Houses.PLAIN, 0), 1);
        e.is("GOOD -1", h.lane(0, -1, 10, 1, Houses.PLAIN, 0), -1);
        e.is("GOOD 16", h.lane(0, 16, 10, 1, Houses.PLAIN, 0), -1);
        h.lane(1, 15, 10, 1, Houses.PLAIN, 0);
        h.size(15, 9);
        e.is("its size is that in every MACHINE", h.load(1, 8), 0);
        e.is("and room for it", h.load(1, 9), 10);
    }

    private static void prices10To5000(Edges e) {
        e.terms("a PRICE (10 .. 5000, a multiple of 10)");
        int[] wrong = {Houses.MIN, -10, 0, 1, 9, 11, 15, 4995, 4999, 5001, 5005, Houses.MAX};
        SlotHouse h = Houses.machines(1);
        for (int price : wrong) {
            e.is("PRICE " + price, h.lane(0, 0, price, 1, Houses.PLAIN, 0), -4);
        }
        e.is("PRICE 5010", h.lane(0, 0, 5010, 1, Houses.PLAIN, 0), -6);
        e.is("no LANE came", h.machineOf(0, 0), 0);
        int[] right = {10, 20, 4990, 5000};
        for (int i = 0; i < right.length; i++) {
            e.is("PRICE " + right[i], h.lane(0, 0, right[i], 1, Houses.PLAIN, 0), i);
            e.is("told", h.laneOf(0, i, 1), right[i]);
        }
        h.fill(0, 0, 1);
        h.fill(0, 3, 1);
        e.is("10 is paid", Houses.buy(h, 0, 0, 5), 0);
        Houses.insert(h, 0, 0, 10);
        e.is("5000 is paid", h.choose(0, 3), 0);
    }

    private static void depths1To20(Edges e) {
        e.terms("a DEPTH (1 .. 20)");
        SlotHouse h = Houses.machines(1);
        e.is("DEPTH 0", h.lane(0, 0, 10, 0, Houses.PLAIN, 0), -4);
        e.is("DEPTH -1", h.lane(0, 0, 10, -1, Houses.PLAIN, 0), -4);
        e.is("DEPTH 21", h.lane(0, 0, 10, 21, Houses.PLAIN, 0), -6);
        e.is("DEPTH 1", h.lane(0, 0, 10, 1, Houses.PLAIN, 0), 0);
        e.is("DEPTH 20", h.lane(0, 0, 10, 20, Houses.PLAIN, 0), 1);
        e.is("1 is full", h.fill(0, 0, 1), 1);
        e.is("2 are too many", h.fill(0, 0, 1), -6);
        e.is("20 is full", h.fill(0, 1, 20), 20);
        e.is("21 are too many", h.fill(0, 1, 1), -6);
    }

    private static void noStockAtFirst(Edges e) {
        e.terms("STOCK (0 at first)");
        SlotHouse h = Houses.lane(10, 20, Houses.PLAIN, 0);
        e.is("STOCK", h.laneOf(0, 0, 3), 0);
        e.is("nothing to empty", h.empty(0, 0), 0);
        e.is("nothing to sell", Houses.buy(h, 0, 0, 5), -3);
    }

    private static void kindsAreTold(Edges e) {
        e.terms("a KIND: 0 LANE; 1 SPIRAL: it may STICK;");
        SlotHouse h = Houses.machines(1);
        for (int kind = 0; kind <= 3; kind++) {
            e.is("KIND " + kind, h.lane(0, 0, 10, 1, kind, 0), kind);
            e.is("told", h.laneOf(0, kind, 4), kind);
            e.is("it may STICK", h.stick(0, kind, 1), kind == Houses.SPIRAL ? 1 : -2);
        }
    }

    private static void keeps0To48(Edges e) {
        e.terms("2 COLD: with a KEEP (0 .. 48 HOURS);");
        SlotHouse h = Houses.machines(1);
        e.is("KEEP -1", h.lane(0, 0, 10, 1, Houses.COLD, -1), -4);
        e.is("KEEP 49", h.lane(0, 0, 10, 1, Houses.COLD, 49), -6);
        int[] keeps = {0, 1, 47, 48};
        for (int i = 0; i < keeps.length; i++) {
            e.is("KEEP " + keeps[i], h.lane(0, i, 10, 1, Houses.COLD, keeps[i]), i);
            h.fill(0, i, 1);
        }
        h.power(0, false);
        for (int off = 1; off <= 50; off++) {
            h.hours(1);
            for (int i = 0; i < keeps.length; i++) {
                e.is("KEEP " + keeps[i] + ", off for " + off, h.laneOf(0, i, 7), off > keeps[i] ? 1 : 0);
            }
        }
    }

    private static void twinSellsItsOwnFirst(Edges e) {
        e.terms("3 TWIN: of two LANES one behind the other, the first told as TWIN:"
            + " if its own STOCK is 0 its sale is made from the next LANE's");
        SlotHouse h = Houses.twin(Houses.PLAIN, 2);
        h.fill(0, 0, 1);
        e.is("its own last piece", Houses.buy(h, 0, 0, 3), 0);
        e.is("its own STOCK", h.laneOf(0, 0, 3), 0);
        e.is("the next one's STOCK", h.laneOf(0, 1, 3), 2);
        e.is("then from the next, at its own PRICE", Houses.buy(h, 0, 0, 3), 0);
        e.is("its own STOCK stays", h.laneOf(0, 0, 3), 0);
        e.is("the next one's is less", h.laneOf(0, 1, 3), 1);
        e.is("the last one of the next", Houses.buy(h, 0, 0, 3), 0);
        e.is("both are empty", Houses.buy(h, 0, 0, 3), -3);
    }

    private static void twinIsServedByTheNext(Edges e) {
        e.terms("(if there is one, with the same GOOD, STOCK, not SHUT, not SPOILED);");
        SlotHouse alone = Houses.lane(50, 5, Houses.TWIN, 0);
        e.is("there is none", Houses.buy(alone, 0, 0, 3), -3);
        alone.lane(0, Houses.GOOD + 1, 50, 5, Houses.PLAIN, 0);
        alone.fill(0, 1, 5);
        e.is("another GOOD", alone.choose(0, 0), -3);

        SlotHouse last = Houses.machines(2);
        for (int i = 0; i < 8; i++) {
            last.lane(0, Houses.GOOD, 50, 5, i == 7 ? Houses.TWIN : Houses.PLAIN, 0);
        }
        last.lane(1, Houses.GOOD, 50, 5, Houses.PLAIN, 0);
        last.fill(0, 0, 5);
        last.fill(0, 6, 5);
        last.fill(1, 0, 5);
        e.is("none behind the eighth", Houses.buy(last, 0, 7, 3), -3);

        e.is("no STOCK", Houses.buy(Houses.twin(Houses.PLAIN, 0), 0, 0, 3), -3);
        SlotHouse shut = Houses.twin(Houses.PLAIN, 1);
        shut.shut(0, 1, true);
        e.is("SHUT", Houses.buy(shut, 0, 0, 3), -3);
        shut.shut(0, 1, false);
        e.is("not SHUT any more", shut.choose(0, 0), 0);

        SlotHouse cold = Houses.twin(Houses.COLD, 2);
        e.is("not SPOILED", Houses.buy(cold, 0, 0, 3), 0);
        Houses.off(cold, 1);
        e.is("SPOILED", Houses.buy(cold, 0, 0, 3), -3);

        SlotHouse two = Houses.twin(Houses.TWIN, 0);
        two.lane(0, Houses.GOOD, 50, 5, Houses.PLAIN, 0);
        two.fill(0, 2, 1);
        e.is("the next but one does not serve", Houses.buy(two, 0, 0, 3), -3);
        e.is("it serves the one before it", two.laneOf(0, 1, 8), 1);
    }

    private static void kind4IsNone(Edges e) {
        e.terms("4 is no KIND.");
        SlotHouse h = Houses.machines(1);
        for (int kind : new int[] {4, 5, -1, Houses.MIN, Houses.MAX}) {
            e.is("KIND " + kind, h.lane(0, 0, 10, 1, kind, 0), -2);
        }
        e.is("no LANE came", h.machineOf(0, 0), 0);
    }

    private static void laneIsShut(Edges e) {
        e.terms("A LANE may be SHUT.");
        for (int kind = 0; kind <= 3; kind++) {
            SlotHouse h = Houses.lane(50, 5, kind, 1);
            e.is("not at first", h.laneOf(0, 0, 5), 0);
            e.is("KIND " + kind, h.shut(0, 0, true), true);
            e.is("told", h.laneOf(0, 0, 5), 1);
        }
    }

    private static void laneSells(Edges e) {
        e.terms("A LANE SELLS if it is not SHUT and has STOCK,");
        for (int kind = 0; kind <= 3; kind++) {
            SlotHouse h = Houses.lane(50, 5, kind, 0);
            e.is("without STOCK", h.laneOf(0, 0, 8), 0);
            h.fill(0, 0, 1);
            e.is("with STOCK 1", h.laneOf(0, 0, 8), 1);
            Houses.buy(h, 0, 0, 3);
            e.is("sold out", h.laneOf(0, 0, 8), 0);
        }
    }

    private static void shutLaneDoesNotSell(Edges e) {
        e.terms("A LANE SELLS if it is not SHUT");
        for (int kind = 0; kind <= 3; kind++) {
            SlotHouse h = Houses.lane(50, 5, kind, 5);
            h.shut(0, 0, true);
            e.is("SHUT, KIND " + kind, h.laneOf(0, 0, 8), 0);
            h.shut(0, 0, false);
            e.is("not SHUT any more, KIND " + kind, h.laneOf(0, 0, 8), 1);
        }
    }

    private static void twinSells(Edges e) {
        e.terms("or is a TWIN whose next one may serve as told;");
        e.is("it serves", Houses.twin(Houses.PLAIN, 1).laneOf(0, 0, 8), 1);
        e.is("without STOCK", Houses.twin(Houses.PLAIN, 0).laneOf(0, 0, 8), 0);
        SlotHouse own = Houses.twin(Houses.PLAIN, 0);
        own.fill(0, 0, 1);
        e.is("STOCK of its own is enough", own.laneOf(0, 0, 8), 1);
        SlotHouse shut = Houses.twin(Houses.PLAIN, 1);
        shut.shut(0, 0, true);
        e.is("a TWIN that is SHUT", shut.laneOf(0, 0, 8), 0);
        SlotHouse plain = Houses.lane(50, 5, Houses.PLAIN, 0);
        plain.lane(0, Houses.GOOD, 50, 5, Houses.PLAIN, 0);
        plain.fill(0, 1, 1);
        e.is("a LANE that is no TWIN", plain.laneOf(0, 0, 8), 0);
    }

    private static void spoiledDoesNotSell(Edges e) {
        e.terms("a COLD one that is SPOILED does not.");
        SlotHouse h = Houses.lane(50, 5, Houses.COLD, 1);
        e.is("not SPOILED", h.laneOf(0, 0, 8), 1);
        Houses.off(h, 1);
        e.is("SPOILED", h.laneOf(0, 0, 8), 0);
        h.empty(0, 0);
        e.is("emptied", h.laneOf(0, 0, 8), 0);
        h.fill(0, 0, 1);
        e.is("filled anew", h.laneOf(0, 0, 8), 1);
    }
}
