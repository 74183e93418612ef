/** Promises 10 to 18: goods and coins that come and go, CHANGE, and HOURS. */
final class EdgesOfTrade {
    private EdgesOfTrade() {
    }

    static void run(Edges e) {
        promise10Fill(e);
        promise11Found(e);
        promise12Empty(e);
        promise13Insert(e);
        promise14Back(e);
        promise15Choose(e);
        promise15NothingFell(e);
        promise15WhatIsInStays(e);
        promise16Given(e);
        promise16WithoutASale(e);
        promise17Change(e);
        promise17FromTubesAndIn(e);
        promise18Hours(e);
    }

    private static void promise10Fill(Edges e) {
        e.sentence(10, "FILLING: STOCK.");
        SlotHouse one = Houses.lane(10, 1, Houses.PLAIN, 0);
        e.is("none of 1", one.fill(0, 0, 0), 0);
        e.is("two of 1", one.fill(0, 0, 2), -6);
        e.is("one of 1", one.fill(0, 0, 1), 1);
        SlotHouse h = Houses.lane(10, 20, Houses.PLAIN, 0);
        e.is("21 of 20", h.fill(0, 0, 21), -6);
        e.is("20 of 20", h.fill(0, 0, 20), 20);
        h.found(0, 0, 19);
        e.is("two where one is found missing", h.fill(0, 0, 2), -6);
        e.is("one where one is found missing", h.fill(0, 0, 1), 20);
        h.shut(0, 0, true);
        h.found(0, 0, 0);
        e.is("a SHUT one", h.fill(0, 0, 20), 20);
    }

    private static void promise11Found(Edges e) {
        e.sentence(11, "FINDING: STOCK as it was.");
        SlotHouse h = Houses.lane(10, 20, Houses.COLD, 7);
        e.is("0", h.found(0, 0, 0), 7);
        e.is("20", h.found(0, 0, 20), 0);
        e.is("21", h.found(0, 0, 21), -6);
        e.is("-1", h.found(0, 0, -1), -4);
        e.is("20 still", h.found(0, 0, 20), 20);
        Houses.off(h, 1);
        e.is("in a SPOILED one", h.found(0, 0, 19), 20);
        e.is("SPOILED it stays", h.laneOf(0, 0, 7), 1);
    }

    private static void promise12Empty(Edges e) {
        e.sentence(12, "EMPTYING: what it had.");
        SlotHouse h = Houses.lane(10, 20, Houses.COLD, 20);
        e.is("a full one", h.empty(0, 0), 20);
        e.is("an empty one", h.empty(0, 0), 0);
        h.fill(0, 0, 1);
        Houses.off(h, 1);
        e.is("a SPOILED one", h.empty(0, 0), 1);
        e.is("it may be filled", h.fill(0, 0, 20), 20);
    }

    private static void promise13Insert(Edges e) {
        e.sentence(13, "A coin comes IN: the worth of all that is IN.");
        int[] worths = {500, 200, 100, 50, 20, 10};
        for (int w = 0; w < 6; w++) {
            SlotHouse h = Houses.machines(1);
            for (int i = 1; i <= 20; i++) {
                e.is(i + " of WORTH " + w, h.insert(0, w), i * worths[w]);
            }
            e.is("the 21st of WORTH " + w, h.insert(0, w), -6);
        }
        SlotHouse mixed = Houses.lane(10, 5, Houses.PLAIN, 5);
        Houses.insert(mixed, 0, 5, 10);
        Houses.insert(mixed, 0, 4, 9);
        e.is("the 20th of several WORTHS", mixed.insert(0, 3), 330);
        e.is("the 21st of several WORTHS", mixed.insert(0, 3), -6);
        e.is("a sale", mixed.choose(0, 0), 320);
        Houses.insert(mixed, 0, 5, 19);
        e.is("the 20th after a sale", mixed.insert(0, 5), 200);
        e.is("the 21st after a sale", mixed.insert(0, 5), -6);
    }

    private static void promise14Back(Edges e) {
        e.sentence(14, "All that is IN comes back: its worth.");
        SlotHouse h = Houses.machines(1);
        e.is("nothing IN", h.back(0), 0);
        h.insert(0, 5);
        e.is("one", h.back(0), 10);
        Houses.insert(h, 0, 0, 20);
        e.is("20", h.back(0), 10000);
        e.is("nothing more", h.back(0), 0);
        e.is("none is in TUBES", h.machineOf(0, 1), 0);
        e.is("every coin is known", h.check(0), true);
    }

    private static void promise15Choose(Edges e) {
        e.sentence(15, "CHOOSING: the CHANGE's worth (0 or more) if the good fell;");
        SlotHouse h = Houses.lane(10, 20, Houses.PLAIN, 20);
        e.is("0", Houses.buy(h, 0, 0, 5), 0);
        e.is("10", Houses.buy(h, 0, 0, 4), 10);
        SlotHouse most = Houses.lane(10, 1, Houses.PLAIN, 1);
        most.tube(0, 1, 2);
        most.tube(0, 3, 1);
        most.tube(0, 4, 2);
        Houses.insert(most, 0, 0, 20);
        e.is("the most, 20 coins of 500 for 10", most.choose(0, 0), 9990);
        e.is("19 of them come back", most.given(0), 19);
        e.is("one stays", most.tubeOf(0, 0), 1);
        e.is("goods sold", most.machineOf(0, 6), 1);
    }

    private static void promise15NothingFell(Edges e) {
        e.sentence(15, "-7 nothing fell (no REFUSAL; all came back).");
        SlotHouse h = Houses.lane(50, 5, Houses.SPIRAL, 5);
        h.stick(0, 0, 1);
        e.is("nothing fell", Houses.buy(h, 0, 0, 3), -7);
        for (int what = 11; what <= 16; what++) {
            e.is("count(" + what + ")", h.count(what), 0);
        }
        e.is("times nothing fell", h.count(3), 1);
        e.is("goods sold of all", h.count(2), 0);
        e.is("nothing is IN", h.machineOf(0, 3), 0);
        e.is("nothing is in TUBES", h.machineOf(0, 1), 0);
        e.is("every coin and good is known", h.check(0), true);
    }

    private static void promise15WhatIsInStays(Edges e) {
        e.sentence(15, "(What is IN stays when it is refused.)");
        SlotHouse h = Houses.lane(70, 5, Houses.PLAIN, 0);
        h.insert(0, 3);
        e.is("no such LANE", h.choose(0, 1), -1);
        e.is("it does not SELL", h.choose(0, 0), -3);
        h.fill(0, 0, 1);
        e.is("worth less", h.choose(0, 0), -5);
        e.is("50 stay", h.machineOf(0, 3), 50);
        e.is("no CHANGE", Houses.buy(h, 0, 0, 3), -6);
        e.is("100 stay", h.back(0), 100);
    }

    private static void promise16Given(Edges e) {
        e.sentence(16, "How many coins of a WORTH were given as CHANGE by the latest choose() by which a good fell;");
        SlotHouse h = Houses.lane(50, 5, Houses.SPIRAL, 5);
        h.tube(0, 5, 50);
        e.is("a good fell", Houses.buy(h, 0, 0, 2), 50);
        e.is("five of 10", h.given(5), 5);
        h.stick(0, 0, 1);
        e.is("nothing fell", Houses.buy(h, 0, 0, 2), -7);
        e.is("five still", h.given(5), 5);
        e.is("refused", h.choose(0, 0), -5);
        e.is("five still", h.given(5), 5);
        h.change(0, 30);
        h.back(0);
        e.is("five still, change() and back() are none", h.given(5), 5);
        e.is("a good fell without CHANGE", Houses.buy(h, 0, 0, 3), 0);
        e.is("none", h.given(5), 0);
    }

    private static void promise16WithoutASale(Edges e) {
        e.sentence(16, "0 without;");
        SlotHouse none = new SlotHouse();
        SlotHouse h = Houses.lane(50, 5, Houses.SPIRAL, 5);
        h.tube(0, 5, 50);
        h.stick(0, 0, 1);
        Houses.buy(h, 0, 0, 2);
        for (int w = 0; w < 6; w++) {
            e.is("no MACHINES", none.given(w), 0);
            e.is("only a miss", h.given(w), 0);
        }
        e.is("WORTH 6", none.given(6), -1);
        e.is("WORTH -1", none.given(-1), -1);
    }

    private static void promise17Change(Edges e) {
        e.sentence(17, "how many coins; -9 if not.");
        SlotHouse h = Houses.machines(1);
        e.is("0 of nothing", h.change(0, 0), 0);
        e.is("10 of nothing", h.change(0, 10), -9);
        e.is("20000 of nothing", h.change(0, 20000), -9);
        for (int w = 0; w < 6; w++) {
            h.tube(0, w, 50);
        }
        e.is("20000", h.change(0, 20000), 40);
        e.is("19990", h.change(0, 19990), 39 + 2 + 1 + 2);
        e.is("19999", h.change(0, 19999), -9);
        e.is("20001", h.change(0, 20001), -6);
        e.is("20010", h.change(0, 20010), -6);
        e.is("1", h.change(0, 1), -9);
        e.is("5", h.change(0, 5), -9);
        e.is("-1", h.change(0, -1), -4);
        e.is("0 of all", h.change(0, 0), 0);
    }

    private static void promise17FromTubesAndIn(Edges e) {
        e.sentence(17, "Whether CHANGE of v could be given from TUBES and what is IN:");
        SlotHouse h = Houses.machines(2);
        h.tube(0, 5, 50);
        h.tube(1, 5, 50);
        e.is("all of a TUBE", h.change(0, 500), 50);
        e.is("more than it has", h.change(0, 510), -9);
        Houses.insert(h, 0, 5, 20);
        e.is("the TUBE and 20 IN", h.change(0, 700), 70);
        e.is("more than both have", h.change(0, 710), -9);
        h.back(0);
        e.is("not what came back", h.change(0, 510), -9);
        e.is("nothing was taken", h.tubeOf(0, 5), 50);
    }

    private static void promise18Hours(Edges e) {
        e.sentence(18, "n HOURS pass: the HOUR.");
        SlotHouse h = new SlotHouse();
        e.is("0", h.hours(0), -4);
        e.is("1", h.hours(1), 1);
        e.is("24", h.hours(24), 25);
        e.is("3000 would be 3025", h.hours(3000), -6);
        e.is("2976 would be 3001", h.hours(2976), -6);
        e.is("2975", h.hours(2975), 3000);
        e.is("no HOUR more", h.hours(1), -6);
        e.is("below is told first", h.hours(0), -4);
        SlotHouse one = Houses.lane(50, 5, Houses.PLAIN, 5);
        SlotHouse many = Houses.lane(50, 5, Houses.PLAIN, 5);
        one.hours(50);
        for (int i = 0; i < 50; i++) {
            many.hours(1);
        }
        for (int hour = 0; hour < 24; hour++) {
            e.is("50 at once as one by one", one.counted(0, Houses.GOOD, hour, 1), many.counted(0, Houses.GOOD, hour, 1));
        }
    }
}
