/** Terms: A SALE. */
final class EdgesOfSales {
    private EdgesOfSales() {
    }

    static void run(Edges e) {
        twentyCoinsIn(e);
        firstItMustSell(e);
        thenItMustBePaid(e);
        thenChangeMustBeThere(e);
        changeIsFromTubesAndInTogether(e);
        changeIsAskedAheadOfTheTurn(e);
        spiralSticks(e);
        thirdMissShuts(e);
        aFallBreaksTheMisses(e);
        onlyItsOwnFallBreaksTheMisses(e);
        openedItMissesFromOneOn(e);
        missGivesAllBack(e);
        goodFalls(e);
        missesOfTheChosenOneAre0(e);
        fewestCoins(e);
        moreOfTheGreater(e);
        tubeIsCutTo50(e);
        tubeIsCutAfterTheChange(e);
        saleIsCounted(e);
    }

    private static void twentyCoinsIn(Edges e) {
        e.terms("==== A SALE: coins come IN (20 at most).");
        SlotHouse h = Houses.machines(1);
        Houses.insert(h, 0, 0, 19);
        e.is("the 20th", h.insert(0, 0), 10000);
        e.is("the 21st", h.insert(0, 5), -6);
        e.is("20 are IN", h.machineOf(0, 3), 10000);
        e.is("all come back", h.back(0), 10000);
        Houses.insert(h, 0, 5, 19);
        e.is("the 20th again", h.insert(0, 5), 200);
        e.is("the 21st again", h.insert(0, 5), -6);
    }

    private static void firstItMustSell(Edges e) {
        e.terms("CHOOSING a LANE: FAILS, in this order: it does not SELL;");
        SlotHouse h = Houses.lane(30, 5, Houses.PLAIN, 0);
        e.is("nothing IN either", h.choose(0, 0), -3);
        h.insert(0, 3);
        e.is("no CHANGE either", h.choose(0, 0), -3);
        h.fill(0, 0, 1);
        e.is("it SELLS now", h.choose(0, 0), -6);
        h.shut(0, 0, true);
        e.is("SHUT", h.choose(0, 0), -3);
        e.is("what is IN stays", h.machineOf(0, 3), 50);
    }

    private static void thenItMustBePaid(Edges e) {
        e.terms("what is IN is worth less than PRICE;");
        SlotHouse h = Houses.lane(120, 5, Houses.PLAIN, 1);
        e.is("nothing", h.choose(0, 0), -5);
        Due.coins(h, 0, 2, 5);
        e.is("10 less", h.choose(0, 0), -5);
        e.is("what is IN stays", h.insert(0, 5), 120);
        e.is("just PRICE", h.choose(0, 0), 0);
        SlotHouse dear = Houses.lane(5000, 1, Houses.PLAIN, 1);
        Houses.insert(dear, 0, 0, 9);
        e.is("4500 of 5000", dear.choose(0, 0), -5);
        e.is("5000 of 5000", Houses.buy(dear, 0, 0, 0), 0);
    }

    private static void thenChangeMustBeThere(Edges e) {
        e.terms("the CHANGE (what is IN less PRICE) can't be given");
        SlotHouse h = Houses.lane(40, 5, Houses.PLAIN, 5);
        h.insert(0, 3);
        e.is("no coin of 10", h.choose(0, 0), -6);
        h.tube(0, 4, 50);
        e.is("only greater ones", h.choose(0, 0), -6);
        e.is("STOCK stays", h.laneOf(0, 0, 3), 5);
        e.is("what is IN stays", h.machineOf(0, 3), 50);
        h.tube(0, 5, 1);
        e.is("the one that is due", h.choose(0, 0), 10);
        e.is("it is gone", Houses.buy(h, 0, 0, 3), -6);
    }

    private static void changeIsFromTubesAndInTogether(Edges e) {
        e.terms("from TUBES and what is IN, together.");
        SlotHouse in = Houses.lane(30, 5, Houses.PLAIN, 1);
        e.is("from what is IN alone", Houses.buy(in, 0, 0, 4, 5, 5), 10);
        SlotHouse tubes = Houses.lane(30, 5, Houses.PLAIN, 1);
        tubes.tube(0, 4, 1);
        e.is("from TUBES alone", Houses.buy(tubes, 0, 0, 3), 20);
        SlotHouse both = Houses.lane(30, 5, Houses.PLAIN, 1);
        both.tube(0, 4, 1);
        e.is("from both", Houses.buy(both, 0, 0, 3, 5), 30);
        e.is("one of TUBES", both.given(4), 1);
        e.is("one that was IN", both.given(5), 1);
        SlotHouse other = Houses.machines(2);
        other.lane(0, 0, 40, 5, Houses.PLAIN, 0);
        other.fill(0, 0, 1);
        other.tube(1, 5, 50);
        e.is("not from another MACHINE's", Houses.buy(other, 0, 0, 3), -6);

        SlotHouse box = Houses.lane(10, 20, Houses.PLAIN, 20);
        box.tube(0, 5, 50);
        e.is("a coin for the BOX", Houses.buy(box, 0, 0, 5), 0);
        e.is("49 of the TUBE go", Houses.buy(box, 0, 0, 0), 490);
        e.is("the last of the TUBE", Houses.buy(box, 0, 0, 4), 10);
        e.is("the BOX has one", box.machineOf(0, 2), 10);
        e.is("not from the BOX", Houses.buy(box, 0, 0, 4), -6);
    }

    private static void changeIsAskedAheadOfTheTurn(Edges e) {
        e.terms("Then it TURNS.");
        SlotHouse h = Houses.lane(40, 5, Houses.SPIRAL, 5);
        h.stick(0, 0, 1);
        e.is("not paid", h.choose(0, 0), -5);
        e.is("no CHANGE", Houses.buy(h, 0, 0, 3), -6);
        e.is("it did not turn", h.stick(0, 0, 0), 1);
        e.is("no miss", h.laneOf(0, 0, 6), 0);
        h.tube(0, 5, 1);
        e.is("it turns", h.choose(0, 0), -7);
    }

    private static void spiralSticks(Edges e) {
        e.terms("Of a SPIRAL that is to STICK nothing falls: it is to STICK once less, its MISSES are 1 more");
        SlotHouse h = Houses.lane(50, 5, Houses.SPIRAL, 1);
        h.stick(0, 0, 1);
        e.is("to STICK once", Houses.buy(h, 0, 0, 3), -7);
        e.is("once less", h.stick(0, 0, 0), 0);
        e.is("MISSES", h.laneOf(0, 0, 6), 1);
        e.is("STOCK stays", h.laneOf(0, 0, 3), 1);
        e.is("not sold", h.machineOf(0, 6), 0);
        e.is("not COUNTED", h.counted(0, Houses.GOOD, 0, 0), 0);
        e.is("not to STICK any more", Houses.buy(h, 0, 0, 3), 0);
        e.is("STOCK is less", h.laneOf(0, 0, 3), 0);
        SlotHouse empty = Houses.lane(50, 5, Houses.SPIRAL, 0);
        empty.stick(0, 0, 1);
        e.is("without STOCK it does not turn", Houses.buy(empty, 0, 0, 3), -3);
        e.is("and is to STICK still", empty.stick(0, 0, 0), 1);
    }

    private static void thirdMissShuts(Edges e) {
        e.terms("(at the third one, one behind the other, it is SHUT);");
        SlotHouse h = Houses.lane(50, 5, Houses.SPIRAL, 5);
        h.stick(0, 0, 3);
        for (int miss = 1; miss <= 3; miss++) {
            e.is("miss " + miss, Houses.buy(h, 0, 0, 3), -7);
            e.is("MISSES", h.laneOf(0, 0, 6), miss);
            e.is("SHUT", h.laneOf(0, 0, 5), miss == 3 ? 1 : 0);
            e.is("it SELLS", h.laneOf(0, 0, 8), miss == 3 ? 0 : 1);
        }
        e.is("no fourth", Houses.buy(h, 0, 0, 3), -3);
        e.is("it was SHUT already", h.shut(0, 0, true), false);
    }

    private static void aFallBreaksTheMisses(Edges e) {
        e.terms("one behind the other, it is SHUT");
        SlotHouse h = Houses.lane(50, 5, Houses.SPIRAL, 5);
        h.stick(0, 0, 2);
        Houses.buy(h, 0, 0, 3);
        Houses.buy(h, 0, 0, 3);
        e.is("two misses, then a fall", Houses.buy(h, 0, 0, 3), 0);
        h.stick(0, 0, 3);
        Houses.buy(h, 0, 0, 3);
        Houses.buy(h, 0, 0, 3);
        e.is("the fourth in all does not SHUT", h.laneOf(0, 0, 5), 0);
        Houses.buy(h, 0, 0, 3);
        e.is("the third behind the fall does", h.laneOf(0, 0, 5), 1);
    }

    private static void onlyItsOwnFallBreaksTheMisses(Edges e) {
        e.terms("at the third one, one behind the other");
        SlotHouse h = Houses.lane(50, 5, Houses.SPIRAL, 5);
        h.lane(0, Houses.GOOD, 50, 5, Houses.SPIRAL, 0);
        h.fill(0, 1, 5);
        h.stick(0, 0, 3);
        Houses.buy(h, 0, 0, 3);
        Houses.buy(h, 0, 0, 3);
        e.is("a refused one between", h.choose(0, 0), -5);
        e.is("another LANE's fall between", Houses.buy(h, 0, 1, 3), 0);
        h.hours(1);
        Houses.buy(h, 0, 0, 3);
        e.is("SHUT", h.laneOf(0, 0, 5), 1);
        e.is("the other is not", h.laneOf(0, 1, 5), 0);
    }

    private static void openedItMissesFromOneOn(Edges e) {
        e.terms("it is to STICK once less");
        SlotHouse h = Houses.lane(50, 5, Houses.SPIRAL, 5);
        h.stick(0, 0, 9);
        for (int miss = 1; miss <= 9; miss++) {
            e.is("miss " + miss, Houses.buy(h, 0, 0, 3), -7);
            e.is("still to STICK", h.stick(0, 0, 0), 9 - miss);
            e.is("SHUT at each third", h.shut(0, 0, false), miss % 3 == 0);
        }
        e.is("the tenth falls", Houses.buy(h, 0, 0, 3), 0);
        e.is("times nothing fell", h.count(3), 9);
    }

    private static void missGivesAllBack(Edges e) {
        e.terms("all that is IN comes back.");
        SlotHouse h = Houses.lane(10, 5, Houses.SPIRAL, 5);
        h.tube(0, 5, 50);
        h.stick(0, 0, 1);
        Houses.insert(h, 0, 5, 20);
        e.is("nothing fell", h.choose(0, 0), -7);
        e.is("nothing is IN", h.machineOf(0, 3), 0);
        e.is("TUBES as before", h.machineOf(0, 1), 500);
        e.is("the BOX as before", h.machineOf(0, 2), 0);
        e.is("nothing more comes back", h.back(0), 0);
        e.is("every coin is known", h.check(0), true);
        Houses.insert(h, 0, 5, 19);
        e.is("20 may come IN again", h.insert(0, 5), 200);
        e.is("and no 21st", h.insert(0, 5), -6);
    }

    private static void goodFalls(Edges e) {
        e.terms("Else the good falls (from the LANE itself, or the next one of a TWIN): STOCK there is 1 less,");
        SlotHouse h = Houses.lane(50, 20, Houses.PLAIN, 20);
        for (int left = 19; left >= 0; left--) {
            e.is("it falls", Houses.buy(h, 0, 0, 3), 0);
            e.is("STOCK", h.laneOf(0, 0, 3), left);
        }
        e.is("none is left", Houses.buy(h, 0, 0, 3), -3);
        SlotHouse twin = Houses.twin(Houses.SPIRAL, 1);
        twin.stick(0, 1, 1);
        e.is("of a TWIN; it is the TWIN that turns", Houses.buy(twin, 0, 0, 3), 0);
        e.is("STOCK of the next one", twin.laneOf(0, 1, 3), 0);
        e.is("STOCK of the TWIN", twin.laneOf(0, 0, 3), 0);
        e.is("the next one is to STICK still", twin.stick(0, 1, 0), 1);
    }

    private static void missesOfTheChosenOneAre0(Edges e) {
        e.terms("MISSES of the chosen one are 0;");
        SlotHouse h = Houses.twin(Houses.SPIRAL, 5);
        h.stick(0, 1, 2);
        h.tube(0, 4, 1);
        h.tube(0, 5, 1);
        e.is("a miss", Houses.buy(h, 0, 1, 2), -7);
        e.is("the TWIN is chosen", Houses.buy(h, 0, 0, 3), 0);
        e.is("the next one's MISSES stay", h.laneOf(0, 1, 6), 1);
        e.is("a second miss", Houses.buy(h, 0, 1, 2), -7);
        e.is("the next one is chosen and falls", Houses.buy(h, 0, 1, 2), 30);
        e.is("its MISSES", h.laneOf(0, 1, 6), 0);
    }

    private static void fewestCoins(Edges e) {
        e.terms("the CHANGE is given, by the fewest coins;");
        SlotHouse h = Houses.lane(40, 5, Houses.PLAIN, 5);
        h.tube(0, 3, 1);
        h.tube(0, 4, 3);
        e.is("60 without a 10", Houses.buy(h, 0, 0, 2), 60);
        e.is("no 50", h.given(3), 0);
        e.is("three 20s", h.given(4), 3);
        SlotHouse g = Houses.lane(400, 5, Houses.PLAIN, 5);
        g.tube(0, 1, 3);
        g.tube(0, 3, 1);
        g.tube(0, 4, 2);
        g.tube(0, 5, 1);
        e.is("600", Houses.buy(g, 0, 0, 0, 0), 600);
        e.is("no 500, though it could be", g.given(0), 0);
        e.is("three 200s", g.given(1), 3);
        SlotHouse none = Houses.lane(50, 5, Houses.PLAIN, 5);
        none.tube(0, 5, 50);
        e.is("CHANGE of 0", Houses.buy(none, 0, 0, 3), 0);
        e.is("no coin", none.tubeOf(0, 5), 50);
        SlotHouse all = Houses.lane(10, 5, Houses.PLAIN, 1);
        all.tube(0, 5, 49);
        e.is("the last coin of a TUBE", Houses.buy(all, 0, 0, 0), 490);
        e.is("49 of them", all.given(5), 49);
        e.is("it is empty", all.tubeOf(0, 5), 0);
    }

    private static void moreOfTheGreater(Edges e) {
        e.terms("of several ways that in which there are more of the greater coins (the first WORTH in which they differ).");
        SlotHouse h = Houses.lane(400, 5, Houses.PLAIN, 5);
        h.tube(0, 1, 3);
        h.tube(0, 3, 2);
        e.is("600 by three coins", Houses.buy(h, 0, 0, 0, 0), 600);
        int[] want = {1, 0, 0, 2, 0, 0};
        for (int w = 0; w < 6; w++) {
            e.is("of WORTH " + w, h.given(w), want[w]);
        }
        SlotHouse g = Houses.lane(400, 5, Houses.PLAIN, 5);
        g.tube(0, 1, 4);
        g.tube(0, 3, 2);
        g.tube(0, 4, 4);
        e.is("640 by five coins", Houses.buy(g, 0, 0, 0, 0, 4, 4), 640);
        int[] more = {1, 0, 0, 2, 2, 0};
        for (int w = 0; w < 6; w++) {
            e.is("of WORTH " + w + " for 640", g.given(w), more[w]);
        }
    }

    private static void tubeIsCutTo50(Edges e) {
        e.terms("Coins that are IN go to the TUBES, those beyond 50 to the BOX,");
        for (int w = 0; w < 6; w++) {
            SlotHouse h = Houses.lane(1000, 5, Houses.PLAIN, 5);
            h.tube(0, w, 49);
            int coins = new int[] {2, 5, 10, 20, 20, 20}[w];
            int worth = new int[] {500, 200, 100, 50, 20, 10}[w];
            h.price(0, 0, coins * worth);
            Houses.insert(h, 0, w, coins);
            e.is("paid by WORTH " + w, h.choose(0, 0), 0);
            e.is("the TUBE", h.tubeOf(0, w), 50);
            e.is("the BOX", h.machineOf(0, 2), (coins - 1) * worth);
            e.is("nothing is IN", h.machineOf(0, 3), 0);
        }
        SlotHouse just = Houses.lane(10, 5, Houses.PLAIN, 5);
        just.tube(0, 5, 49);
        Houses.buy(just, 0, 0, 5);
        e.is("just 50", just.tubeOf(0, 5), 50);
        e.is("none for the BOX", just.machineOf(0, 2), 0);
        Houses.buy(just, 0, 0, 5);
        e.is("50 stay", just.tubeOf(0, 5), 50);
        e.is("the 51st for the BOX", just.machineOf(0, 2), 10);
    }

    private static void tubeIsCutAfterTheChange(Edges e) {
        e.terms("before CHANGE is taken from TUBES (so a TUBE may have more than 50 for a moment:"
            + " it is what is there with all IN, less CHANGE, that is cut to 50, the rest to the BOX).");
        SlotHouse h = Houses.lane(20, 5, Houses.PLAIN, 5);
        h.tube(0, 5, 50);
        e.is("51 less 1", Houses.buy(h, 0, 0, 4, 5), 10);
        e.is("the TUBE", h.tubeOf(0, 5), 50);
        e.is("none for the BOX", h.machineOf(0, 2), 0);
        SlotHouse g = Houses.lane(10, 5, Houses.PLAIN, 5);
        g.tube(0, 5, 50);
        Houses.insert(g, 0, 5, 20);
        e.is("70 less 19", g.choose(0, 0), 190);
        e.is("19 are given", g.given(5), 19);
        e.is("the TUBE of 51", g.tubeOf(0, 5), 50);
        e.is("one for the BOX", g.machineOf(0, 2), 10);
        SlotHouse less = Houses.lane(10, 5, Houses.PLAIN, 5);
        less.tube(0, 5, 50);
        e.is("50 less 1", Houses.buy(less, 0, 0, 4), 10);
        e.is("the TUBE of 49", less.tubeOf(0, 5), 49);
        e.is("the TUBE of the coin", less.tubeOf(0, 4), 1);
        e.is("nothing for the BOX", less.machineOf(0, 2), 0);
    }

    private static void saleIsCounted(Edges e) {
        e.terms("A sale is COUNTED for the GOOD of the chosen LANE, in that MACHINE, at the HOUR OF DAY.");
        SlotHouse h = Houses.machines(2);
        for (int m = 0; m < 2; m++) {
            h.lane(m, 0, 50, 5, Houses.PLAIN, 0);
            h.lane(m, 15, 50, 5, Houses.PLAIN, 0);
            h.fill(m, 0, 5);
            h.fill(m, 1, 5);
        }
        Houses.buy(h, 1, 1, 3);
        h.hours(23);
        Houses.buy(h, 1, 1, 3);
        Houses.buy(h, 1, 0, 3);
        h.hours(1);
        Houses.buy(h, 1, 1, 3);
        e.is("at 0, of two days", h.counted(1, 15, 0, 0), 2);
        e.is("at 23", h.counted(1, 15, 23, 0), 1);
        e.is("the other GOOD at 23", h.counted(1, 0, 23, 0), 1);
        e.is("the other GOOD at 0", h.counted(1, 0, 0, 0), 0);
        e.is("at 1", h.counted(1, 15, 1, 0), 0);
        e.is("the other MACHINE", h.counted(0, 15, 0, 0), 0);
    }
}
