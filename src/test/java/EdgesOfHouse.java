/** What it is: the first line of the document, each of its words by a run of calls. */
final class EdgesOfHouse {
    private static final int GOOD = Houses.GOOD;

    private EdgesOfHouse() {
    }

    static void run(Edges e) {
        goodsAreSoldByCoins(e);
        changeIsAskedAheadOfTheTurn(e);
        changeIsOfTheFewestCoins(e);
        goodsThatDoNotFall(e);
        powerThatFails(e);
        stockAsToldAndAsFound(e);
        ratesByHoursThere(e);
        hoursToCome(e);
        loadsForTheVan(e);
        coinsAndGoodsAreCounted(e);
    }

    private static void goodsAreSoldByCoins(Edges e) {
        e.terms("Machines that sell goods from lanes by coins:");
        SlotHouse h = Houses.lane(50, 5, Houses.PLAIN, 2);
        e.is("without coins", h.choose(0, 0), -5);
        e.is("by a coin of 50", Houses.buy(h, 0, 0, 3), 0);
        e.is("STOCK", h.laneOf(0, 0, 3), 1);
        e.is("worth of TUBES", h.machineOf(0, 1), 50);
        e.is("goods sold", h.count(2), 1);
    }

    private static void changeIsAskedAheadOfTheTurn(Edges e) {
        e.terms("change asked ahead of the turn");
        SlotHouse h = Houses.lane(30, 5, Houses.SPIRAL, 1);
        h.stick(0, 0, 1);
        e.is("no CHANGE", Houses.buy(h, 0, 0, 3), -6);
        e.is("it has not turned: MISSES", h.laneOf(0, 0, 6), 0);
        e.is("it is still to STICK", h.stick(0, 0, 0), 1);
        e.is("what is IN stays", h.machineOf(0, 3), 50);
        h.tube(0, 4, 1);
        e.is("with CHANGE it turns", h.choose(0, 0), -7);
        e.is("MISSES", h.laneOf(0, 0, 6), 1);
        e.is("no CHANGE was given", h.tubeOf(0, 4), 1);
    }

    private static void changeIsOfTheFewestCoins(Edges e) {
        e.terms("and given by the fewest coins,");
        SlotHouse h = Houses.lane(40, 5, Houses.PLAIN, 1);
        h.tube(0, 3, 1);
        h.tube(0, 4, 3);
        h.tube(0, 5, 1);
        e.is("60 of 100", Houses.buy(h, 0, 0, 2), 60);
        e.is("50", h.given(3), 1);
        e.is("10", h.given(5), 1);
        e.is("20", h.given(4), 0);
        SlotHouse less = Houses.lane(40, 5, Houses.PLAIN, 1);
        less.tube(0, 3, 1);
        less.tube(0, 4, 3);
        e.is("60 of 100 without a 10", Houses.buy(less, 0, 0, 2), 60);
        e.is("20 three times", less.given(4), 3);
    }

    private static void goodsThatDoNotFall(Edges e) {
        e.terms("goods that do not fall,");
        SlotHouse h = Houses.lane(50, 5, Houses.SPIRAL, 1);
        h.stick(0, 0, 1);
        e.is("nothing falls", Houses.buy(h, 0, 0, 3), -7);
        e.is("STOCK", h.laneOf(0, 0, 3), 1);
        e.is("goods sold", h.count(2), 0);
        e.is("then it falls", Houses.buy(h, 0, 0, 3), 0);
    }

    private static void powerThatFails(Edges e) {
        e.terms("power that fails,");
        SlotHouse h = Houses.lane(50, 5, Houses.COLD, 1);
        e.is("with POWER it is sold", h.laneOf(0, 0, 8), 1);
        Houses.off(h, 1);
        e.is("HOURS off", h.machineOf(0, 8), 1);
        e.is("SPOILED", h.laneOf(0, 0, 8), 0);
        SlotHouse plain = Houses.lane(50, 5, Houses.PLAIN, 1);
        Houses.off(plain, 100);
        e.is("a LANE that is not COLD sells without POWER", Houses.buy(plain, 0, 0, 3), 0);
    }

    private static void stockAsToldAndAsFound(Edges e) {
        e.terms("stock as told and as found,");
        SlotHouse h = Houses.lane(50, 5, Houses.PLAIN, 4);
        e.is("as told", h.found(0, 0, 1), 4);
        e.is("as found", h.laneOf(0, 0, 3), 1);
        e.is("SHRINK", h.machineOf(0, 4), 3);
    }

    private static void ratesByHoursThere(Edges e) {
        e.terms("rates by the hours in which a good was there,");
        SlotHouse h = Houses.lane(50, 5, Houses.PLAIN, 2);
        Houses.buy(h, 0, 0, 3);
        h.hours(24);
        h.found(0, 0, 0);
        h.hours(48);
        e.is("THERE on the first of three days", h.counted(0, GOOD, 0, 1), 1);
        e.is("RATE", h.foretell(0, GOOD, 1), 1000);
    }

    private static void hoursToCome(Edges e) {
        e.terms("hours to come,");
        SlotHouse h = Houses.lane(50, 5, Houses.PLAIN, 3);
        Houses.buy(h, 0, 0, 3);
        h.hours(24);
        e.is("two days to come", h.foretell(0, GOOD, 48), 2000);
        e.is("HOURS till two pieces are gone", h.when(0, 0), 25);
    }

    private static void loadsForTheVan(Edges e) {
        e.terms("loads for the van by a table,");
        SlotHouse h = Houses.machines(1);
        h.lane(0, 0, 60, 1, Houses.PLAIN, 0);
        h.lane(0, 1, 50, 2, Houses.PLAIN, 0);
        h.size(0, 3);
        h.size(1, 2);
        e.is("room 4: not the dearest piece first", h.load(0, 4), 100);
        e.is("none of the dearest", h.loaded(0), 0);
        e.is("room 5", h.load(0, 5), 110);
        e.is("one of each", h.loaded(0) * 10 + h.loaded(1), 11);
    }

    private static void coinsAndGoodsAreCounted(Edges e) {
        e.terms("every coin and good counted.");
        SlotHouse h = Houses.lane(50, 5, Houses.PLAIN, 5);
        h.tube(0, 3, 50);
        Houses.buy(h, 0, 0, 2);
        Houses.buy(h, 0, 0, 3);
        h.found(0, 0, 2);
        h.empty(0, 0);
        h.insert(0, 5);
        e.is("all that came", h.check(0), true);
        e.is("TUBES, the BOX and IN", h.machineOf(0, 1) + h.machineOf(0, 2) + h.machineOf(0, 3), 2610);
        e.is("filled", h.machineOf(0, 7), 5);
        e.is("sold, WASTE and SHRINK", h.machineOf(0, 6) * 100 + h.machineOf(0, 5) * 10 + h.machineOf(0, 4), 221);
    }
}
