/** Terms: AN HOUR, RATE, FORETOLD and EMPTY. */
final class EdgesOfHours {
    private static final int GOOD = Houses.GOOD;

    private EdgesOfHours() {
    }

    static void run(Edges e) {
        hourIsOneMore(e);
        thereInTheHourThatIsOver(e);
        thereOnceForEachGood(e);
        thereIfItSells(e);
        coldSpoils(e);
        onlyColdWithStockSpoils(e);
        spoiledTillEmptied(e);
        powerOnBeginsAnew(e);
        rateIsCut(e);
        rateWithoutHours(e);
        foretoldFromNowOn(e);
        foretoldWrapsAround(e);
        emptyIsTheLeast(e);
        emptyCountsAllLanesOfTheGood(e);
        emptyIs0WithoutStock(e);
    }

    private static void hourIsOneMore(Edges e) {
        e.terms("==== AN HOUR passes: HOUR is 1 more;");
        SlotHouse h = new SlotHouse();
        e.is("without MACHINES", h.hours(1), 1);
        h.machine();
        e.is("without LANES", h.hours(1), 2);
        e.is("HOUR", h.count(0), 2);
    }

    private static void thereInTheHourThatIsOver(Edges e) {
        e.terms("of the HOUR OF DAY that is over, it was THERE one HOUR more.");
        SlotHouse h = Houses.lane(50, 5, Houses.PLAIN, 5);
        e.is("none is over yet", h.counted(0, GOOD, 0, 1), 0);
        h.hours(1);
        e.is("0 is over", h.counted(0, GOOD, 0, 1), 1);
        e.is("1 is not", h.counted(0, GOOD, 1, 1), 0);
        h.hours(22);
        e.is("22 is over", h.counted(0, GOOD, 22, 1), 1);
        e.is("23 is not", h.counted(0, GOOD, 23, 1), 0);
        h.hours(1);
        e.is("23 is over", h.counted(0, GOOD, 23, 1), 1);
        e.is("0 is not over again", h.counted(0, GOOD, 0, 1), 1);
        h.hours(1);
        e.is("0 is over again", h.counted(0, GOOD, 0, 1), 2);
        SlotHouse all = Houses.lane(50, 5, Houses.PLAIN, 5);
        all.hours(3000);
        e.is("0 in 3000 HOURS", all.counted(0, GOOD, 0, 1), 125);
        e.is("23 in 3000 HOURS", all.counted(0, GOOD, 23, 1), 125);
    }

    private static void thereOnceForEachGood(Edges e) {
        e.terms("for each MACHINE and each GOOD of one of its LANES that SELLS (once),");
        SlotHouse h = Houses.machines(2);
        for (int lane = 0; lane < 8; lane++) {
            h.lane(0, lane % 2 == 0 ? 0 : 15, 50, 5, Houses.PLAIN, 0);
            h.fill(0, lane, 5);
        }
        h.lane(1, 15, 50, 5, Houses.PLAIN, 0);
        h.fill(1, 0, 5);
        h.hours(1);
        e.is("four LANES of GOOD 0", h.counted(0, 0, 0, 1), 1);
        e.is("four LANES of GOOD 15", h.counted(0, 15, 0, 1), 1);
        e.is("a GOOD without a LANE", h.counted(0, 1, 0, 1), 0);
        e.is("the other MACHINE, GOOD 15", h.counted(1, 15, 0, 1), 1);
        e.is("the other MACHINE, GOOD 0", h.counted(1, 0, 0, 1), 0);
        for (int lane = 0; lane < 6; lane += 2) {
            h.shut(0, lane, true);
        }
        h.hours(1);
        e.is("the last of the four LANES alone", h.counted(0, 0, 1, 1), 1);
        h.shut(0, 6, true);
        h.hours(1);
        e.is("none of the four", h.counted(0, 0, 2, 1), 0);
        SlotHouse twin = Houses.twin(Houses.PLAIN, 1);
        twin.hours(1);
        e.is("a TWIN and its next one", twin.counted(0, GOOD, 0, 1), 1);
    }

    private static void thereIfItSells(Edges e) {
        e.terms("one of its LANES that SELLS");
        SlotHouse h = Houses.lane(50, 5, Houses.COLD, 0);
        h.hours(1);
        e.is("without STOCK", h.counted(0, GOOD, 0, 1), 0);
        h.fill(0, 0, 1);
        h.hours(1);
        e.is("with STOCK", h.counted(0, GOOD, 1, 1), 1);
        Houses.buy(h, 0, 0, 3);
        h.hours(1);
        e.is("sold out before it is over", h.counted(0, GOOD, 2, 1), 0);
        h.fill(0, 0, 1);
        h.shut(0, 0, true);
        h.hours(1);
        e.is("SHUT", h.counted(0, GOOD, 3, 1), 0);
        h.shut(0, 0, false);
        Houses.off(h, 2);
        e.is("SPOILED when it is over", h.counted(0, GOOD, 4, 1), 1);
        e.is("SPOILED all the HOUR", h.counted(0, GOOD, 5, 1), 0);
    }

    private static void coldSpoils(Edges e) {
        e.terms("POWER off for more HOURS, one behind the other, than KEEP:");
        for (int keep : new int[] {0, 1, 24, 48}) {
            SlotHouse h = Houses.machines(1);
            h.lane(0, GOOD, 50, 5, Houses.COLD, keep);
            h.fill(0, 0, 1);
            Houses.off(h, keep);
            e.is("off for KEEP " + keep, h.laneOf(0, 0, 7), 0);
            h.hours(1);
            e.is("off for one more than KEEP " + keep, h.laneOf(0, 0, 7), 1);
        }
        SlotHouse on = Houses.lane(50, 5, Houses.COLD, 1);
        on.hours(3000);
        e.is("POWER on", on.laneOf(0, 0, 7), 0);
        SlotHouse other = Houses.machines(2);
        other.lane(1, GOOD, 50, 5, Houses.COLD, 0);
        other.fill(1, 0, 1);
        Houses.off(other, 1);
        e.is("POWER of another MACHINE off", other.laneOf(1, 0, 7), 0);
    }

    private static void onlyColdWithStockSpoils(Edges e) {
        e.terms("a COLD LANE that has STOCK is SPOILED");
        for (int kind = 0; kind <= 3; kind++) {
            SlotHouse h = Houses.lane(50, 5, kind, 1);
            Houses.off(h, 100);
            e.is("KIND " + kind, h.laneOf(0, 0, 7), kind == Houses.COLD ? 1 : 0);
        }
        SlotHouse h = Houses.lane(50, 5, Houses.COLD, 0);
        Houses.off(h, 5);
        e.is("without STOCK", h.laneOf(0, 0, 7), 0);
        e.is("it may be filled", h.fill(0, 0, 1), 1);
        h.hours(1);
        e.is("with STOCK, an HOUR later", h.laneOf(0, 0, 7), 1);
    }

    private static void spoiledTillEmptied(Edges e) {
        e.terms("(till it is emptied).");
        SlotHouse h = Houses.lane(50, 5, Houses.COLD, 3);
        Houses.off(h, 1);
        h.power(0, true);
        h.hours(1);
        e.is("POWER is on", h.laneOf(0, 0, 7), 1);
        h.found(0, 0, 0);
        e.is("nothing is found", h.laneOf(0, 0, 7), 1);
        h.shut(0, 0, true);
        h.shut(0, 0, false);
        e.is("SHUT and not any more", h.laneOf(0, 0, 7), 1);
        e.is("emptied without STOCK", h.empty(0, 0), 0);
        e.is("emptied", h.laneOf(0, 0, 7), 0);
    }

    private static void powerOnBeginsAnew(Edges e) {
        e.terms("POWER on again: the count begins anew.");
        SlotHouse h = Houses.machines(1);
        h.lane(0, GOOD, 50, 5, Houses.COLD, 2);
        h.fill(0, 0, 1);
        Houses.off(h, 2);
        h.power(0, true);
        e.is("on", h.machineOf(0, 8), 0);
        Houses.off(h, 0);
        e.is("off again", h.machineOf(0, 8), 0);
        h.hours(2);
        e.is("KEEP anew", h.laneOf(0, 0, 7), 0);
        e.is("off already", h.power(0, false), false);
        h.hours(1);
        e.is("more than KEEP", h.laneOf(0, 0, 7), 1);
        e.is("HOURS off", h.machineOf(0, 8), 3);
    }

    /** Sold pieces at HOUR OF DAY 0, and days that pass with the GOOD there. */
    private static SlotHouse soldAt0(int sold, int days, int left) {
        SlotHouse h = Houses.lane(10, 20, Houses.PLAIN, 20);
        for (int i = 0; i < sold; i++) {
            Houses.buy(h, 0, 0, 5);
        }
        if (days > 0) {
            h.hours(24 * days);
        }
        h.found(0, 0, left);
        return h;
    }

    private static void rateIsCut(Edges e) {
        e.terms("RATE of a GOOD in a MACHINE at an HOUR OF DAY: 1000 times what was COUNTED there,"
            + " divided by the HOURS in which it was THERE (cut;");
        e.is("1 by 1", soldAt0(1, 1, 1).foretell(0, GOOD, 1), 1000);
        e.is("1 by 3", soldAt0(1, 3, 1).foretell(0, GOOD, 1), 333);
        e.is("2 by 3", soldAt0(2, 3, 1).foretell(0, GOOD, 1), 666);
        e.is("1 by 125", soldAt0(1, 125, 1).foretell(0, GOOD, 1), 8);
        e.is("19 by 1", soldAt0(19, 1, 1).foretell(0, GOOD, 1), 19000);
        e.is("0 by 1", soldAt0(0, 1, 1).foretell(0, GOOD, 1), 0);
        e.is("cut by RATE, not by the sum", soldAt0(2, 3, 1).foretell(0, GOOD, 25), 1332);
    }

    private static void rateWithoutHours(Edges e) {
        e.terms("0 without).");
        SlotHouse h = soldAt0(1, 0, 1);
        e.is("COUNTED", h.counted(0, GOOD, 0, 0), 1);
        e.is("not THERE", h.counted(0, GOOD, 0, 1), 0);
        e.is("RATE", h.foretell(0, GOOD, 24), 0);
        e.is("of a GOOD without a LANE", h.foretell(0, 15, 24), 0);
    }

    private static void foretoldFromNowOn(Edges e) {
        e.terms("FORETOLD for n HOURS from now on: the sum of RATES of these HOURS OF DAY (that of HOUR first).");
        SlotHouse h = soldAt0(1, 1, 5);
        e.is("none", h.foretell(0, GOOD, 0), 0);
        e.is("that of HOUR", h.foretell(0, GOOD, 1), 1000);
        e.is("a day", h.foretell(0, GOOD, 24), 1000);
        e.is("and the same HOUR OF DAY again", h.foretell(0, GOOD, 25), 2000);
        e.is("ten days", h.foretell(0, GOOD, 240), 10000);
        h.hours(1);
        e.is("HOUR is not 0 any more", h.foretell(0, GOOD, 1), 0);
        e.is("23 HOURS before it", h.foretell(0, GOOD, 23), 0);
        e.is("it is the last of a day", h.foretell(0, GOOD, 24), 500);
    }

    private static void foretoldWrapsAround(Edges e) {
        e.terms("the sum of RATES of these HOURS OF DAY");
        SlotHouse h = Houses.lane(10, 20, Houses.PLAIN, 20);
        Houses.buy(h, 0, 0, 5);
        h.hours(23);
        Houses.buy(h, 0, 0, 5);
        Houses.buy(h, 0, 0, 5);
        h.hours(24);
        e.is("23 alone", h.foretell(0, GOOD, 1), 2000);
        e.is("23 and then 0", h.foretell(0, GOOD, 2), 2500);
        e.is("and then 1", h.foretell(0, GOOD, 3), 2500);
        h.hours(1);
        e.is("0 first", h.foretell(0, GOOD, 1), 500);
        e.is("then all but 23", h.foretell(0, GOOD, 23), 500);
        e.is("23 as the last", h.foretell(0, GOOD, 24), 1500);
    }

    private static void emptyIsTheLeast(Edges e) {
        e.terms("EMPTY of a LANE: the least n, 1 .. 240, for which FORETOLD for its GOOD is 1000 times the STOCK");
        e.is("n 1", soldAt0(1, 1, 1).when(0, 0), 1);
        e.is("n 25", soldAt0(1, 1, 2).when(0, 0), 25);
        e.is("more than is due in n 1", soldAt0(3, 1, 2).when(0, 0), 1);
        e.is("just what is due in n 1", soldAt0(3, 1, 3).when(0, 0), 1);
        e.is("a piece more", soldAt0(3, 1, 4).when(0, 0), 25);
        e.is("999 are too few", soldAt0(1, 3, 1).when(0, 0), 73);
        e.is("n 217", soldAt0(1, 1, 10).when(0, 0), 217);
        e.is("none up to 240", soldAt0(1, 1, 11).when(0, 0), -9);
        e.is("20 pieces", soldAt0(1, 1, 20).when(0, 0), -9);
        e.is("no sale at all", soldAt0(0, 1, 1).when(0, 0), -9);
        SlotHouse late = Houses.lane(10, 20, Houses.PLAIN, 20);
        Houses.buy(late, 0, 0, 5);
        late.hours(1);
        late.found(0, 0, 10);
        e.is("n 240", late.when(0, 0), 240);
        late.found(0, 0, 11);
        e.is("beyond 240", late.when(0, 0), -9);
    }

    private static void emptyCountsAllLanesOfTheGood(Edges e) {
        e.terms("of all LANES of the MACHINE with that GOOD, together, or more;");
        SlotHouse h = Houses.machines(2);
        h.lane(0, GOOD, 10, 20, Houses.PLAIN, 0);
        h.lane(0, GOOD, 10, 20, Houses.COLD, 0);
        h.lane(0, 4, 10, 20, Houses.PLAIN, 0);
        h.lane(1, GOOD, 10, 20, Houses.PLAIN, 0);
        h.fill(0, 0, 2);
        h.fill(0, 2, 20);
        h.fill(1, 0, 20);
        Houses.buy(h, 0, 0, 5);
        h.hours(24);
        e.is("one piece in the first", h.when(0, 0), 1);
        e.is("of the second without STOCK the same", h.when(0, 1), 1);
        h.fill(0, 1, 1);
        e.is("one in each", h.when(0, 0), 25);
        e.is("of the second the same", h.when(0, 1), 25);
        h.shut(0, 0, true);
        e.is("one of them SHUT", h.when(0, 1), 25);
        Houses.off(h, 1);
        e.is("the other SPOILED, RATE 500 now", h.when(0, 0), 96);
    }

    private static void emptyIs0WithoutStock(Edges e) {
        e.terms("0 if that STOCK is 0.");
        e.is("with a RATE", soldAt0(1, 1, 0).when(0, 0), 0);
        e.is("without", Houses.lane(10, 5, Houses.PLAIN, 0).when(0, 0), 0);
    }
}
