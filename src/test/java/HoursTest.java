/** Promises 18 to 21: hours that pass, goods that spoil, rates and hours to come. */
public final class HoursTest {
    private static final int MAX = Integer.MAX_VALUE;
    private static final int MIN = Integer.MIN_VALUE;
    private static final Due due = new Due("HoursTest");

    public static void main(String[] args) {
        promise18Hours();
        promise18Spoil();
        promise18SpoilOnlyWithStock();
        promise18There();
        promise19Counted();
        promise20Foretell();
        promise21When();
        promise21WhenEdges();
        promise21WhenIsCut();
        due.end();
    }

    private static void sell(SlotHouse h, int machine, int lane) {
        h.insert(machine, 3);
        due.is("a sale", h.choose(machine, lane), 0);
    }

    private static void promise18Hours() {
        SlotHouse h = new SlotHouse();
        due.is("18 no hours", h.hours(0), -4);
        due.is("18 below", h.hours(MIN), -4);
        due.is("18 above", h.hours(3001), -6);
        due.is("18 far above", h.hours(MAX), -6);
        due.is("18 one", h.hours(1), 1);
        due.is("18 beyond", h.hours(3000), -6);
        due.is("18 far beyond", h.hours(MAX), -6);
        due.is("18 to the last", h.hours(2999), 3000);
        due.is("18 no more", h.hours(1), -6);
        due.is("18 below at the end", h.hours(0), -4);
        due.is("18 hour", h.count(0), 3000);
    }

    private static SlotHouse coldHouse(int keep) {
        SlotHouse h = new SlotHouse();
        h.machine();
        h.lane(0, 5, 50, 9, 2, keep);
        h.lane(0, 5, 50, 9, 0, 0);
        h.fill(0, 0, 4);
        h.fill(0, 1, 4);
        return h;
    }

    private static void promise18Spoil() {
        SlotHouse h = coldHouse(3);
        h.hours(100);
        due.is("18 with power", h.laneOf(0, 0, 7), 0);
        h.power(0, false);
        h.hours(3);
        due.is("18 no longer than keep", h.laneOf(0, 0, 7), 0);
        h.power(0, true);
        h.power(0, false);
        h.hours(3);
        due.is("18 the count begins anew", h.laneOf(0, 0, 7), 0);
        due.is("18 hours off", h.machineOf(0, 8), 3);
        h.hours(1);
        due.is("18 longer than keep", h.laneOf(0, 0, 7), 1);
        due.is("18 does not sell", h.laneOf(0, 0, 8), 0);
        due.is("18 has its stock", h.laneOf(0, 0, 3), 4);
        due.is("18 the plain one sells", h.laneOf(0, 1, 8), 1);
        h.power(0, true);
        h.hours(5);
        due.is("18 till it is emptied", h.laneOf(0, 0, 7), 1);
        h.empty(0, 0);
        due.is("18 emptied", h.laneOf(0, 0, 7), 0);

        SlotHouse g = coldHouse(48);
        g.power(0, false);
        g.hours(48);
        due.is("18 keep 48", g.laneOf(0, 0, 7), 0);
        g.hours(1);
        due.is("18 keep 48 is over", g.laneOf(0, 0, 7), 1);
    }

    private static void promise18SpoilOnlyWithStock() {
        SlotHouse h = coldHouse(0);
        h.empty(0, 0);
        h.power(0, false);
        h.hours(1);
        due.is("18 without stock", h.laneOf(0, 0, 7), 0);
        due.is("18 filled meanwhile", h.fill(0, 0, 2), 2);
        due.is("18 not before an hour passes", h.laneOf(0, 0, 7), 0);
        h.hours(1);
        due.is("18 an hour later", h.laneOf(0, 0, 7), 1);
        due.is("18 plain lanes do not spoil", h.laneOf(0, 1, 7), 0);
    }

    private static void promise18There() {
        SlotHouse h = coldHouse(0);
        h.machine();
        h.hours(25);
        due.is("18 once for two lanes", h.counted(0, 5, 1, 1), 1);
        due.is("18 the hour that is over", h.counted(0, 5, 0, 1), 2);
        due.is("18 another good", h.counted(0, 4, 0, 1), 0);
        due.is("18 another machine", h.counted(1, 5, 0, 1), 0);
        h.shut(0, 1, true);
        h.power(0, false);
        h.hours(1);
        due.is("18 it sold in the hour in which it spoiled", h.counted(0, 5, 1, 1), 2);
        h.hours(1);
        due.is("18 spoiled and shut", h.counted(0, 5, 2, 1), 1);
        h.shut(0, 1, false);
        h.hours(1);
        due.is("18 power off, but it sells", h.counted(0, 5, 3, 1), 2);
        h.empty(0, 1);
        h.hours(1);
        due.is("18 without stock", h.counted(0, 5, 4, 1), 1);

        SlotHouse g = new SlotHouse();
        g.machine();
        g.lane(0, 0, 50, 9, 3, 0);
        g.lane(0, 0, 50, 9, 0, 0);
        g.lane(0, 15, 50, 9, 0, 0);
        g.fill(0, 1, 1);
        g.fill(0, 2, 1);
        g.hours(24);
        due.is("18 twin and next, once", g.counted(0, 0, 23, 1), 1);
        due.is("18 another good of it", g.counted(0, 15, 0, 1), 1);
    }

    private static void promise19Counted() {
        SlotHouse h = new SlotHouse();
        h.machine();
        h.machine();
        h.lane(1, 15, 50, 9, 0, 0);
        h.lane(1, 15, 50, 9, 0, 0);
        h.fill(1, 0, 5);
        h.fill(1, 1, 5);
        sell(h, 1, 0);
        h.hours(23);
        sell(h, 1, 1);
        sell(h, 1, 0);
        h.hours(1);
        sell(h, 1, 0);
        due.is("19 at 0", h.counted(1, 15, 0, 0), 2);
        due.is("19 at 23", h.counted(1, 15, 23, 0), 2);
        due.is("19 at 1", h.counted(1, 15, 1, 0), 0);
        due.is("19 there at 0", h.counted(1, 15, 0, 1), 1);
        due.is("19 the other machine", h.counted(0, 15, 0, 0), 0);
        due.is("19 a good without lane", h.counted(1, 0, 0, 0), 0);
        due.is("19 machine", h.counted(2, 0, 0, 0), -1);
        due.is("19 good", h.counted(1, 16, 0, 0), -1);
        due.is("19 good below", h.counted(1, -1, 0, 0), -1);
        due.is("19 what", h.counted(1, 15, 0, 2), -2);
        due.is("19 what below", h.counted(1, 15, 0, -1), -2);
        due.is("19 good before what", h.counted(1, 16, 24, 2), -1);
        due.is("19 what before hour", h.counted(1, 15, -1, 2), -2);
        due.is("19 hour below", h.counted(1, 15, -1, 0), -4);
        due.is("19 hour above", h.counted(1, 15, 24, 1), -6);
        due.is("19 hour far above", h.counted(1, 15, MAX, 1), -6);
        due.is("19 hour far below", h.counted(1, 15, MIN, 1), -4);
    }

    private static void promise20Foretell() {
        SlotHouse h = new SlotHouse();
        h.machine();
        h.lane(0, 2, 50, 20, 0, 0);
        h.fill(0, 0, 20);
        sell(h, 0, 0);
        sell(h, 0, 0);
        due.is("20 not there for an hour yet", h.foretell(0, 2, 24), 0);
        h.hours(72);
        due.is("20 cut", h.foretell(0, 2, 1), 666);
        due.is("20 a day", h.foretell(0, 2, 24), 666);
        due.is("20 a day and an hour", h.foretell(0, 2, 25), 1332);
        h.hours(1);
        due.is("20 2000 by 4", h.foretell(0, 2, 24), 500);
        due.is("20 the hour now is first", h.foretell(0, 2, 23), 0);
        sell(h, 0, 0);
        due.is("20 what is counted now", h.foretell(0, 2, 1), 333);
        due.is("20 both", h.foretell(0, 2, 24), 833);
        due.is("20 most", h.foretell(0, 2, 240), 8330);
        due.is("20 none", h.foretell(0, 2, 0), 0);
        due.is("20 another good", h.foretell(0, 3, 240), 0);
        due.is("20 n below", h.foretell(0, 2, -1), -4);
        due.is("20 n above", h.foretell(0, 2, 241), -6);
        due.is("20 n far above", h.foretell(0, 2, MAX), -6);
        due.is("20 good", h.foretell(0, 16, 0), -1);
        due.is("20 machine", h.foretell(1, 0, 0), -1);
        due.is("20 good before n", h.foretell(0, 16, -1), -1);
    }

    private static void promise21When() {
        SlotHouse h = new SlotHouse();
        h.machine();
        h.lane(0, 2, 50, 20, 0, 0);
        h.lane(0, 2, 50, 20, 2, 0);
        h.lane(0, 3, 50, 20, 0, 0);
        due.is("21 no stock", h.when(0, 0), 0);
        h.fill(0, 0, 3);
        due.is("21 no rate", h.when(0, 0), -9);
        sell(h, 0, 0);
        due.is("21 no hours there", h.when(0, 0), -9);
        h.hours(20);
        due.is("21 two pieces", h.when(0, 0), 4 + 1 + 24);
        due.is("21 a lane without stock, by its good", h.when(0, 1), 29);
        h.fill(0, 1, 1);
        due.is("21 all lanes of the good", h.when(0, 0), 53);
        h.shut(0, 0, true);
        h.power(0, false);
        h.hours(1);
        due.is("21 shut and spoiled ones too", h.when(0, 1), 52);
        due.is("21 another good has no stock", h.when(0, 2), 0);
        due.is("21 lane", h.when(0, 3), -1);
        due.is("21 lane below", h.when(0, -1), -1);
        due.is("21 machine", h.when(1, 0), -1);
        due.is("21 -9 is no refusal", h.count(11), 3);
    }

    /** With 1000 at one HOUR OF DAY the tenth piece goes within 240 hours, the eleventh not. */
    private static void promise21WhenEdges() {
        SlotHouse h = new SlotHouse();
        h.machine();
        h.lane(0, 2, 50, 20, 0, 0);
        h.fill(0, 0, 12);
        sell(h, 0, 0);
        due.is("21 eleven", h.when(0, 0), -9);
        h.hours(1);
        h.found(0, 0, 11);
        due.is("21 eleven pieces, an hour later", h.when(0, 0), -9);
        h.found(0, 0, 10);
        due.is("21 ten pieces, the last hour", h.when(0, 0), 240);
        h.found(0, 0, 1);
        due.is("21 one piece", h.when(0, 0), 24);
        h.found(0, 0, 0);
        due.is("21 none", h.when(0, 0), 0);
        h.found(0, 0, 2);
        sell(h, 0, 0);
        h.hours(23);
        due.is("21 from now on, the first hour", h.when(0, 0), 1);
    }

    /** A sale in three hours is a RATE of 333: three days are 999, not a piece yet. */
    private static void promise21WhenIsCut() {
        SlotHouse h = new SlotHouse();
        h.machine();
        h.lane(0, 2, 50, 20, 0, 0);
        h.fill(0, 0, 2);
        sell(h, 0, 0);
        h.hours(72);
        due.is("21 three days", h.foretell(0, 2, 49), 999);
        due.is("21 the fourth day", h.when(0, 0), 73);
    }
}
