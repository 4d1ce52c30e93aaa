/** Promises 16 to 18: inflow, settle, settled. */
public final class SettlementTest {
    public static void main(String[] args) {
        inflows();
        inflowRanges();
        lossByVolumes();
        restsToTheLowerNumber();
        lossBelowZero();
        noVolumes();
        volumesAsTheyAreByNow();
        pointsThatWereThere();
        threeRuns();
        settledRanges();
        largeLoss();
        Check.end();
    }

    /** A house with a FLAT, 10 units a day, of each of these suppliers. */
    private static MeterHouse flats(int... suppliers) {
        MeterHouse house = new MeterHouse();
        for (int supplier : suppliers) {
            house.point(supplier, MeterHouse.FLAT, 4, 1, 0);
        }
        return house;
    }

    private static void dueSettled(MeterHouse house, int day, int... units) {
        for (int supplier = 0; supplier < units.length; supplier++) {
            Check.due("settled(" + day + ", " + supplier + ")", house.settled(day, supplier), units[supplier]);
        }
    }

    private static void inflows() {
        MeterHouse house = flats(0);
        house.pass(2);
        Check.due("the first inflow", house.inflow(0, 40), 0);
        Check.due("the inflow anew", house.inflow(0, 1000000000), 40);
        Check.due("the inflow anew, none", house.inflow(0, 0), 1000000000);
        Check.due("the inflow of another day", house.inflow(1, 25), 0);
        Check.due("the inflow behind none", house.inflow(0, 12), 0);
        dueSettled(house, 0, 0, 0, 0, 0);
        house.settle(0);
        Check.notNow("the inflow of a settled day", () -> house.inflow(0, 13));
        Check.outOfRange("no inflow of a settled day", () -> house.inflow(0, -1));
        Check.due("the inflow of a day that is not settled", house.inflow(1, 26), 25);
        dueSettled(house, 0, 12, 0, 0, 0);
        dueSettled(house, 1, 0, 0, 0, 0);
    }

    private static void inflowRanges() {
        MeterHouse house = flats(0);
        Check.noSuch("inflow of the day 0 on it", () -> house.inflow(0, 0));
        house.pass(3);
        Check.noSuch("inflow of today", () -> house.inflow(3, 0));
        Check.noSuch("inflow of the day -1", () -> house.inflow(-1, 0));
        Check.noSuch("inflow of today, out of range", () -> house.inflow(3, -1));
        Check.outOfRange("inflow -1", () -> house.inflow(2, -1));
        Check.outOfRange("inflow above the most", () -> house.inflow(2, 1000000001));
        Check.due("what was refused told nothing", house.inflow(2, 7), 0);
    }

    private static void lossByVolumes() {
        MeterHouse house = flats(1, 3, 3, 0);
        house.pass(1);
        house.inflow(0, 100);
        Check.due("settle(0)", house.settle(0), 1);
        // a loss of 60 by 10, 10, 0, 20
        dueSettled(house, 0, 25, 25, 0, 50);
        Check.due("settle(0) again", house.settle(0), 2);
        dueSettled(house, 0, 25, 25, 0, 50);
    }

    private static void restsToTheLowerNumber() {
        MeterHouse house = flats(3, 1, 2);
        house.pass(2);
        house.inflow(0, 37);
        house.settle(0);
        // 70 by 30 thrice: 2 and 10 each, one is left
        dueSettled(house, 0, 0, 13, 12, 12);
        house.inflow(1, 38);
        house.settle(1);
        dueSettled(house, 1, 0, 13, 13, 12);
        MeterHouse uneven = flats(0, 2, 2);
        uneven.pass(1);
        uneven.inflow(0, 31);
        uneven.settle(0);
        // 10 and 20 by 30: the greater rest is of 2
        dueSettled(uneven, 0, 10, 0, 21, 0);
    }

    private static void lossBelowZero() {
        MeterHouse house = flats(0, 1, 1);
        house.pass(4);
        house.inflow(0, 23);
        house.settle(0);
        // 7 without its sign: 2 and 10, 4 and 20
        dueSettled(house, 0, 8, 15, 0, 0);
        house.settle(1);
        dueSettled(house, 1, 0, 0, 0, 0);
        house.inflow(2, 28);
        house.settle(2);
        // 2 without its sign: 0 and 20, 1 and 10
        dueSettled(house, 2, 9, 19, 0, 0);
        house.inflow(3, 29);
        house.settle(3);
        // 1 without its sign: 0 and 10, 0 and 20
        dueSettled(house, 3, 10, 19, 0, 0);
    }

    private static void noVolumes() {
        MeterHouse house = new MeterHouse();
        house.pass(1);
        house.inflow(0, 500);
        Check.due("settle without points", house.settle(0), 1);
        dueSettled(house, 0, 0, 0, 0, 0);
        MeterHouse unused = flats(0, 1);
        unused.pass(1);
        unused.read(0, 0);
        unused.read(1, 0);
        unused.inflow(0, 500);
        Check.due("settle without use", unused.settle(0), 1);
        dueSettled(unused, 0, 0, 0, 0, 0);
        MeterHouse half = flats(0, 1);
        half.pass(1);
        half.read(0, 0);
        half.inflow(0, 500);
        half.settle(0);
        dueSettled(half, 0, 0, 500, 0, 0);
    }

    private static void volumesAsTheyAreByNow() {
        MeterHouse house = flats(0, 1);
        house.change(0, 2, 1);
        house.pass(2);
        house.inflow(1, 40);
        house.settle(1);
        dueSettled(house, 1, 0, 20, 20, 0);
        house.read(0, 60);
        dueSettled(house, 1, 0, 20, 20, 0);
        house.settle(1);
        // 30 and 10
        dueSettled(house, 1, 0, 10, 30, 0);
        house.reverse(0);
        house.read(1, 60);
        dueSettled(house, 1, 0, 10, 30, 0);
        house.settle(1);
        // 30 and 30, a loss of -20
        dueSettled(house, 1, 20, 20, 0, 0);
    }

    private static void pointsThatWereThere() {
        MeterHouse house = flats(0);
        house.pass(1);
        house.point(1, MeterHouse.HOUSE, 4, 1, 0);
        house.pass(1);
        house.inflow(0, 30);
        house.inflow(1, 60);
        house.settle(0);
        house.settle(1);
        dueSettled(house, 0, 30, 0, 0, 0);
        dueSettled(house, 1, 20, 40, 0, 0);
    }

    private static void threeRuns() {
        MeterHouse house = flats(0);
        house.pass(2);
        Check.due("run 1", house.settle(0), 1);
        Check.due("run 2", house.settle(0), 2);
        Check.due("run 3", house.settle(0), 3);
        Check.notNow("run 4", () -> house.settle(0));
        Check.due("run 1 of another day", house.settle(1), 1);
        Check.noSuch("settle today", () -> house.settle(2));
        Check.noSuch("settle the day -1", () -> house.settle(-1));
        Check.notNow("inflow behind three runs", () -> house.inflow(0, 1));
    }

    private static void settledRanges() {
        MeterHouse house = flats(0);
        Check.noSuch("settled(0, 0) on the day 0", () -> house.settled(0, 0));
        house.pass(2);
        Check.due("settled without a run", house.settled(1, 3), 0);
        Check.noSuch("settled(2, 0)", () -> house.settled(2, 0));
        Check.noSuch("settled(-1, 0)", () -> house.settled(-1, 0));
        Check.noSuch("settled(0, 4)", () -> house.settled(0, 4));
        Check.noSuch("settled(0, -1)", () -> house.settled(0, -1));
    }

    private static void largeLoss() {
        MeterHouse house = new MeterHouse();
        for (int point = 0; point < 8; point++) {
            house.point(point % 4, MeterHouse.SHOP, 6, 10, 1);
        }
        house.weather(0, 0, 0);
        house.weather(1, 1, 30);
        house.pass(1);
        for (int point = 0; point < 8; point++) {
            house.exchange(point, 0, 3, 1);
        }
        house.pass(1);
        house.inflow(1, 1000000000);
        Check.due("settle 8 times 189999810", house.settle(1), 1);
        // a loss of -519998480, a quarter for each
        dueSettled(house, 1, 250000000, 250000000, 250000000, 250000000);
        house.inflow(0, 3);
        house.settle(0);
        // 19999980 each and a loss of -79999917: the one that is left of it takes a unit from 0
        dueSettled(house, 0, 0, 1, 1, 1);
    }
}
