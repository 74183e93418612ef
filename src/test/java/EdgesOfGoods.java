/** Terms: FILLING, FINDING and EMPTYING, LOAD. */
final class EdgesOfGoods {
    private EdgesOfGoods() {
    }

    static void run(Edges e) {
        fillingUpToDepth(e);
        whatAStoreGave(e);
        findingLessAndMore(e);
        emptying(e);
        loadWithRoom0To200(e);
        loadUpToDepth(e);
        loadBySizes(e);
        loadOfPrice(e);
        loadNotForShutOrSpoiled(e);
        loadOfTheGreatestWorth(e);
        loadOfLessRoom(e);
        loadWithMoreForTheLeastLane(e);
    }

    private static void fillingUpToDepth(Edges e) {
        e.terms("==== FILLING a LANE by n: its STOCK is more;");
        SlotHouse h = Houses.lane(10, 5, Houses.PLAIN, 0);
        e.is("by 0", h.fill(0, 0, 0), 0);
        e.is("by 4", h.fill(0, 0, 4), 4);
        e.is("by 2, one too many", h.fill(0, 0, 2), -6);
        e.is("by 1, full", h.fill(0, 0, 1), 5);
        e.is("by 0, full", h.fill(0, 0, 0), 5);
        e.is("by 1 more", h.fill(0, 0, 1), -6);
        e.is("STOCK", h.laneOf(0, 0, 3), 5);
    }

    private static void whatAStoreGave(Edges e) {
        e.terms("what a store gave is counted.");
        SlotHouse h = Houses.lane(10, 5, Houses.PLAIN, 0);
        e.is("nothing yet", h.machineOf(0, 7), 0);
        h.fill(0, 0, 5);
        h.fill(0, 0, 1);
        e.is("not what is refused", h.machineOf(0, 7), 5);
        h.empty(0, 0);
        h.found(0, 0, 5);
        e.is("not what is found", h.machineOf(0, 7), 5);
        h.found(0, 0, 3);
        h.fill(0, 0, 2);
        e.is("all that was given", h.machineOf(0, 7), 7);
    }

    private static void findingLessAndMore(Edges e) {
        e.terms("FINDING n in a LANE: SHRINK of the MACHINE is more by STOCK less n (it may go below 0), STOCK is n.");
        SlotHouse h = Houses.lane(10, 20, Houses.PLAIN, 0);
        e.is("0 in an empty one", h.found(0, 0, 0), 0);
        e.is("SHRINK 0", h.machineOf(0, 4), 0);
        e.is("20 in an empty one", h.found(0, 0, 20), 0);
        e.is("SHRINK below 0", h.machineOf(0, 4), -20);
        e.is("STOCK 20", h.laneOf(0, 0, 3), 20);
        e.is("all goods are known", h.check(0), true);
        e.is("as it is", h.found(0, 0, 20), 20);
        e.is("SHRINK stays", h.machineOf(0, 4), -20);
        e.is("none", h.found(0, 0, 0), 20);
        e.is("SHRINK 0 again", h.machineOf(0, 4), 0);
        h.fill(0, 0, 3);
        e.is("one less", h.found(0, 0, 2), 3);
        e.is("SHRINK above 0", h.machineOf(0, 4), 1);
        h.lane(0, Houses.GOOD, 10, 20, Houses.PLAIN, 0);
        h.found(0, 1, 1);
        e.is("SHRINK is the MACHINE's, of all LANES", h.machineOf(0, 4), 0);
    }

    private static void emptying(Edges e) {
        e.terms("EMPTYING: its STOCK is WASTE, it is 0, not SPOILED.");
        SlotHouse h = Houses.lane(10, 20, Houses.COLD, 0);
        e.is("an empty one", h.empty(0, 0), 0);
        e.is("no WASTE", h.machineOf(0, 5), 0);
        h.fill(0, 0, 20);
        Houses.off(h, 1);
        e.is("a full one", h.empty(0, 0), 20);
        e.is("WASTE", h.machineOf(0, 5), 20);
        e.is("STOCK", h.laneOf(0, 0, 3), 0);
        e.is("not SPOILED", h.laneOf(0, 0, 7), 0);
        e.is("nothing more", h.empty(0, 0), 0);
        h.fill(0, 0, 2);
        h.empty(0, 0);
        e.is("WASTE in all", h.machineOf(0, 5), 22);
        h.shut(0, 0, true);
        h.empty(0, 0);
        e.is("SHUT it stays", h.laneOf(0, 0, 5), 1);
    }

    private static void loadWithRoom0To200(Edges e) {
        e.terms("LOAD for a MACHINE with a room (0 .. 200):");
        SlotHouse h = Houses.machines(1);
        e.is("no LANES", h.load(0, 200), 0);
        h.size(15, 9);
        for (int lane = 0; lane < 8; lane++) {
            h.lane(0, 15, 100, 20, Houses.PLAIN, 0);
        }
        e.is("room 0", h.load(0, 0), 0);
        e.is("room 8", h.load(0, 8), 0);
        e.is("room 9", h.load(0, 9), 100);
        e.is("room 197", h.load(0, 197), 2100);
        e.is("room 198", h.load(0, 198), 2200);
        e.is("room 200", h.load(0, 200), 2200);
        e.is("room 201", h.load(0, 201), -6);
        e.is("room -1", h.load(0, -1), -4);
    }

    private static void loadUpToDepth(Edges e) {
        e.terms("each LANE may be filled up to DEPTH,");
        SlotHouse h = Houses.lane(10, 20, Houses.PLAIN, 20);
        e.is("a full one", h.load(0, 200), 0);
        e.is("none for it", h.loaded(0), 0);
        h.found(0, 0, 19);
        e.is("one may come", h.load(0, 200), 10);
        h.found(0, 0, 0);
        e.is("20 may come", h.load(0, 200), 200);
        e.is("20 for it", h.loaded(0), 20);
        e.is("19 within the room", h.load(0, 19), 190);
        e.is("STOCK stays", h.laneOf(0, 0, 3), 0);
    }

    private static void loadBySizes(Edges e) {
        e.terms("each piece takes as much room as the size of its GOOD (1 .. 9; 1 at first),");
        SlotHouse h = Houses.lane(10, 20, Houses.PLAIN, 0);
        e.is("size 1 at first", h.load(0, 7), 70);
        for (int size = 1; size <= 9; size++) {
            h.size(Houses.GOOD, size);
            e.is("one of size " + size, h.load(0, size), 10);
            e.is("none of size " + size, h.load(0, size - 1), 0);
            e.is("two of size " + size, h.load(0, 2 * size), 20);
        }
        h.size(Houses.GOOD + 1, 1);
        e.is("the size of another GOOD", h.load(0, 8), 0);
    }

    private static void loadOfPrice(Edges e) {
        e.terms("and is worth PRICE");
        SlotHouse h = Houses.lane(5000, 20, Houses.PLAIN, 0);
        for (int lane = 1; lane < 8; lane++) {
            h.lane(0, lane, 5000, 20, Houses.PLAIN, 0);
        }
        e.is("the greatest of all", h.load(0, 200), 160 * 5000);
        h.price(0, 0, 10);
        e.is("a PRICE of now", h.load(0, 200), 140 * 5000 + 20 * 10);
        e.is("the dear ones first", h.load(0, 141), 140 * 5000 + 10);
    }

    private static void loadNotForShutOrSpoiled(Edges e) {
        e.terms("(not of LANES that are SHUT or SPOILED: these take none):");
        SlotHouse h = Houses.lane(50, 5, Houses.COLD, 1);
        h.lane(0, 4, 60, 5, Houses.PLAIN, 0);
        e.is("both", h.load(0, 200), 4 * 50 + 5 * 60);
        h.shut(0, 1, true);
        e.is("one SHUT", h.load(0, 200), 4 * 50);
        e.is("none for it", h.loaded(1), 0);
        Houses.off(h, 1);
        e.is("the other SPOILED", h.load(0, 200), 0);
        e.is("none for that", h.loaded(0), 0);
        h.shut(0, 1, false);
        e.is("not SHUT any more", h.load(0, 200), 5 * 60);
        h.empty(0, 0);
        e.is("not SPOILED any more", h.load(0, 200), 5 * 50 + 5 * 60);
        SlotHouse between = Houses.lane(10, 5, Houses.PLAIN, 0);
        between.lane(0, 4, 5000, 5, Houses.PLAIN, 0);
        between.lane(0, 5, 20, 5, Houses.PLAIN, 0);
        between.shut(0, 1, true);
        e.is("the one behind a SHUT one", between.load(0, 5), 100);
        e.is("none for the one before it", between.loaded(0), 0);
        e.is("five for the one behind it", between.loaded(2), 5);
    }

    private static void loadOfTheGreatestWorth(Edges e) {
        e.terms("of all ways within the room that of the greatest worth,");
        SlotHouse h = Houses.machines(1);
        h.lane(0, 0, 60, 9, Houses.PLAIN, 0);
        h.lane(0, 1, 50, 9, Houses.PLAIN, 0);
        h.size(0, 5);
        h.size(1, 4);
        e.is("one of the dearer is less than two", h.load(0, 8), 100);
        e.is("none of it", h.loaded(0), 0);
        e.is("one of each", h.load(0, 9), 110);
        e.is("two of the dearer", h.load(0, 10), 120);
        e.is("room is left", h.load(0, 7), 60);
        h.price(0, 0, 110);
        e.is("one of the dearer is more than two", h.load(0, 8), 110);
        e.is("one of it", h.loaded(0), 1);
        e.is("none of the other", h.loaded(1), 0);
    }

    private static void loadOfLessRoom(Edges e) {
        e.terms("of several that which takes less room,");
        SlotHouse h = Houses.machines(1);
        h.lane(0, 0, 40, 1, Houses.PLAIN, 0);
        h.lane(0, 1, 40, 1, Houses.PLAIN, 0);
        h.size(0, 9);
        h.size(1, 8);
        e.is("one of the two", h.load(0, 16), 40);
        e.is("not the first, of size 9", h.loaded(0), 0);
        e.is("the second, of size 8", h.loaded(1), 1);
        e.is("both", h.load(0, 17), 80);
    }

    private static void loadWithMoreForTheLeastLane(Edges e) {
        e.terms("then that which takes more for the LANE of the least number in which they differ.");
        SlotHouse h = Houses.machines(1);
        for (int lane = 0; lane < 8; lane++) {
            h.lane(0, 0, 40, 2, Houses.PLAIN, 0);
        }
        e.is("five of sixteen", h.load(0, 5), 200);
        int[] want = {2, 2, 1, 0, 0, 0, 0, 0};
        for (int lane = 0; lane < 8; lane++) {
            e.is("LANE " + lane, h.loaded(lane), want[lane]);
        }
        SlotHouse g = Houses.machines(1);
        g.lane(0, 0, 30, 1, Houses.PLAIN, 0);
        g.lane(0, 1, 20, 3, Houses.PLAIN, 0);
        g.lane(0, 2, 40, 3, Houses.PLAIN, 0);
        g.size(0, 3);
        g.size(1, 2);
        g.size(2, 4);
        e.is("they differ in LANE 1", g.load(0, 7), 70);
        e.is("LANE 0 of them", g.loaded(0), 1);
        e.is("LANE 1 of them", g.loaded(1), 2);
        e.is("LANE 2 of them", g.loaded(2), 0);
    }
}
