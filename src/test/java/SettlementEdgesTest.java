/** Terms, "Settlement"; Promises 16 to 18: each sentence at its edges. */
public final class SettlementEdgesTest {
    public static void main(String[] args) {
        inflowDays();
        inflowAnew();
        inflowSettled();
        runs();
        latestRunCounts();
        withoutARun();
        losses();
        volumesByNow();
        pointsThere();
        partsOfOne();
        leftOver();
        leftOverBelowZero();
        noVolumes();
        largest();
        Check.end();
    }

    /** A FLAT, 10 units a day, of each of these suppliers; a day has passed. */
    private static MeterHouse flats(int... suppliers) {
        MeterHouse house = new MeterHouse();
        for (int supplier : suppliers) {
            house.point(supplier, MeterHouse.FLAT, 5, 1, 0);
        }
        house.pass(1);
        return house;
    }

    /** A FLAT with so many units on the day 0 of each supplier in turn, NONE for no point. */
    private static MeterHouse used(int... units) {
        MeterHouse house = new MeterHouse();
        for (int supplier = 0; supplier < units.length; supplier++) {
            if (units[supplier] != MeterHouse.NONE) {
                house.point(supplier, MeterHouse.FLAT, 5, 1, 0);
            }
        }
        house.pass(1);
        int point = 0;
        for (int used : units) {
            if (used != MeterHouse.NONE) {
                house.exchange(point, used, 3, 1);
                point++;
            }
        }
        return house;
    }

    private static void dueSettled(MeterHouse house, int day, int... units) {
        for (int supplier = 0; supplier < 4; supplier++) {
            Check.due("settled(" + day + ", " + supplier + ")", house.settled(day, supplier), units[supplier]);
        }
    }

    private static void dueRun(MeterHouse house, int inflow, int... units) {
        house.inflow(0, inflow);
        house.settle(0);
        dueSettled(house, 0, units);
    }

    private static void inflowDays() {
        Check.that("The inflow of a day can be told, once it has passed", () -> {
            MeterHouse house = new MeterHouse();
            Check.noSuch("the day 0 on it", () -> house.inflow(0, 1));
            house.pass(1);
            Check.due("the day 0 on the day 1", house.inflow(0, 1), 0);
            Check.noSuch("the day 1 on it", () -> house.inflow(1, 1));
            house.pass(60);
            Check.due("the day 60 on the day 61", house.inflow(60, 1), 0);
            Check.noSuch("the day 61 on it", () -> house.inflow(61, 1));
            Check.due("the day 0, long ago", house.inflow(0, 2), 1);
        });
        Check.that("days that passed ahead of the first point can be told and settled", () -> {
            MeterHouse house = new MeterHouse();
            house.pass(3);
            house.point(0, MeterHouse.FLAT, 3, 1, 0);
            Check.due("the inflow of 2", house.inflow(2, 9), 0);
            Check.due("settle 2", house.settle(2), 1);
            dueSettled(house, 2, 0, 0, 0, 0);
        });
    }

    private static void inflowAnew() {
        Check.that("Returns the one before, 0 at first", () -> {
            MeterHouse house = flats(0);
            Check.due("the first", house.inflow(0, 7), 0);
            Check.due("the second", house.inflow(0, 1000000000), 7);
            Check.due("the third", house.inflow(0, 0), 1000000000);
            Check.due("the fourth", house.inflow(0, 5), 0);
        });
        Check.that("the latest one that was told counts", () -> {
            MeterHouse house = flats(0);
            house.inflow(0, 7);
            house.inflow(0, 15);
            house.settle(0);
            dueSettled(house, 0, 15, 0, 0, 0);
        });
        Check.that("the inflow of each day alone", () -> {
            MeterHouse house = flats(2);
            house.pass(2);
            house.inflow(1, 15);
            Check.due("of the day ahead", house.inflow(0, 1), 0);
            Check.due("of the day behind", house.inflow(2, 1), 0);
            Check.due("of the day itself", house.inflow(1, 15), 15);
        });
        Check.that("one that was refused is not told", () -> {
            MeterHouse house = flats(0);
            house.inflow(0, 7);
            Check.outOfRange("-1", () -> house.inflow(0, -1));
            Check.outOfRange("above the most", () -> house.inflow(0, 1000000001));
            Check.due("the one before", house.inflow(0, 8), 7);
        });
    }

    private static void inflowSettled() {
        Check.that("as long as the day is not settled", () -> {
            for (int times = 1; times <= 3; times++) {
                MeterHouse house = flats(0);
                house.pass(1);
                house.inflow(0, 30);
                for (int run = 0; run < times; run++) {
                    house.settle(0);
                }
                Check.notNow("behind " + times + " runs", () -> house.inflow(0, 31));
                Check.notNow("the same again", () -> house.inflow(0, 30));
                Check.due("of a day that is not", house.inflow(1, 31), 0);
                dueSettled(house, 0, 30, 0, 0, 0);
            }
        });
        Check.that("an inflow that was refused is not in the next run", () -> {
            MeterHouse house = flats(0);
            house.inflow(0, 30);
            house.settle(0);
            Check.notNow("the inflow", () -> house.inflow(0, 31));
            house.settle(0);
            dueSettled(house, 0, 30, 0, 0, 0);
        });
        Check.that("a day that was settled without an inflow", () -> {
            MeterHouse house = flats(0);
            house.settle(0);
            Check.notNow("the inflow", () -> house.inflow(0, 1));
        });
    }

    private static void runs() {
        Check.that("A day has at most 3 runs", () -> {
            MeterHouse house = flats(0);
            house.pass(1);
            for (int run = 1; run <= 3; run++) {
                Check.due("how many runs it has then", house.settle(0), run);
            }
            Check.notNow("a fourth run", () -> house.settle(0));
            Check.notNow("a fifth run", () -> house.settle(0));
            Check.due("the first run of another day", house.settle(1), 1);
            house.pass(60);
            Check.notNow("a fourth run, later", () -> house.settle(0));
        });
        Check.that("on the day 900 the day 899", () -> {
            MeterHouse house = new MeterHouse();
            for (int passed = 0; passed < 900; passed += 60) {
                house.pass(60);
            }
            for (int run = 1; run <= 3; run++) {
                Check.due("how many runs 899 has then", house.settle(899), run);
                Check.due("how many runs 0 has then", house.settle(0), run);
            }
            Check.noSuch("900", () -> house.settle(900));
        });
    }

    private static void latestRunCounts() {
        Check.that("the latest one counts", () -> {
            MeterHouse house = flats(0, 1);
            house.pass(3);
            house.inflow(0, 40);
            house.settle(0);
            dueSettled(house, 0, 20, 20, 0, 0);
            house.read(0, 120);
            // 30 and 10 by now
            house.settle(0);
            dueSettled(house, 0, 30, 10, 0, 0);
            house.read(1, 280);
            // 30 and 70 by now, a loss of -60
            house.settle(0);
            dueSettled(house, 0, 12, 28, 0, 0);
        });
        Check.that("a fourth run changes nothing", () -> {
            MeterHouse house = flats(0, 1);
            house.inflow(0, 40);
            for (int run = 0; run < 3; run++) {
                house.settle(0);
            }
            house.read(0, 30);
            Check.notNow("a fourth run", () -> house.settle(0));
            dueSettled(house, 0, 20, 20, 0, 0);
        });
    }

    private static void withoutARun() {
        Check.that("units, 0 without a run", () -> {
            MeterHouse house = flats(0, 1, 2, 3);
            house.pass(2);
            house.inflow(1, 400);
            dueSettled(house, 1, 0, 0, 0, 0);
            house.settle(1);
            dueSettled(house, 0, 0, 0, 0, 0);
            dueSettled(house, 1, 100, 100, 100, 100);
            dueSettled(house, 2, 0, 0, 0, 0);
        });
    }

    private static void losses() {
        Check.that("the loss is the inflow less all volumes of the day: none", () -> dueRun(flats(0, 0, 3), 30,
                20, 0, 0, 10));
        Check.that("a loss of 1", () -> dueRun(flats(0, 0, 3), 31, 21, 0, 0, 10));
        Check.that("a loss of -1", () -> dueRun(flats(0, 0, 3), 29, 19, 0, 0, 10));
        Check.that("an inflow of 0: the loss is all of it", () -> dueRun(flats(0, 0, 3), 0, 0, 0, 0, 0));
        Check.that("an inflow that was not told is 0", () -> {
            MeterHouse house = flats(0, 0, 3);
            house.settle(0);
            dueSettled(house, 0, 0, 0, 0, 0);
        });
        Check.that("an inflow of 1", () -> dueRun(flats(0, 0, 3), 1, 1, 0, 0, 0));
    }

    private static void volumesByNow() {
        Check.that("all volumes of the day, as they are by now: a reading that is taken later", () -> {
            MeterHouse house = flats(0, 1);
            house.pass(1);
            house.read(0, 60);
            dueRun(house, 80, 60, 20, 0, 0);
            Check.due("the volume", house.volume(0, 0), 30);
        });
        Check.that("as they are by now: a reading that is doubted, then confirmed", () -> {
            MeterHouse house = flats(0, 1);
            house.read(0, 990);
            dueRun(house, 20, 10, 10, 0, 0);
            house.confirm(0);
            house.settle(0);
            // 990 and 10, a loss of -980: 970 and 200 by 1000, 9 and 800
            dueSettled(house, 0, 20, 0, 0, 0);
        });
        Check.that("of its points of that day, as a change is called wrong", () -> {
            MeterHouse house = flats(0, 1);
            house.change(0, 2, 2);
            house.pass(3);
            house.inflow(1, 40);
            house.inflow(2, 40);
            house.settle(1);
            house.settle(2);
            dueSettled(house, 1, 20, 20, 0, 0);
            dueSettled(house, 2, 0, 20, 20, 0);
            house.reverse(0);
            dueSettled(house, 2, 0, 20, 20, 0);
            house.settle(2);
            dueSettled(house, 2, 20, 20, 0, 0);
        });
        Check.that("degrees of today leave the days that can be settled", () -> {
            MeterHouse house = new MeterHouse();
            house.point(0, MeterHouse.HOUSE, 3, 1, 0);
            house.pass(1);
            house.weather(1, 999, 30);
            dueRun(house, 20, 20, 0, 0, 0);
        });
    }

    private static void pointsThere() {
        Check.that("of points that were there: one that began on the day", () -> {
            MeterHouse house = new MeterHouse();
            house.pass(4);
            house.point(1, MeterHouse.FLAT, 3, 1, 0);
            house.pass(1);
            house.inflow(4, 12);
            house.settle(4);
            dueSettled(house, 4, 0, 12, 0, 0);
        });
        Check.that("of points that were there: not one that began on the day behind", () -> {
            MeterHouse house = flats(0);
            house.point(1, MeterHouse.FLAT, 3, 1, 0);
            dueRun(house, 12, 12, 0, 0, 0);
            house.pass(5);
            house.settle(0);
            dueSettled(house, 0, 12, 0, 0, 0);
        });
    }

    private static void partsOfOne() {
        Check.that("one supplier alone has all of the loss", () -> {
            for (int supplier = 0; supplier < 4; supplier++) {
                for (int inflow : new int[] {0, 9, 10, 11, 1000000000}) {
                    MeterHouse house = flats(supplier);
                    house.inflow(0, inflow);
                    house.settle(0);
                    int[] due = new int[4];
                    due[supplier] = inflow;
                    dueSettled(house, 0, due);
                }
            }
        });
        Check.that("a supplier without points has no part of the loss", () ->
                dueRun(flats(1, 1, 1), 100, 0, 100, 0, 0));
        Check.that("a supplier whose points have no volumes has no part of the loss", () ->
                dueRun(used(0, 5, MeterHouse.NONE, 0), 16, 0, 16, 0, 0));
        Check.that("the volumes of all points of a supplier, together", () ->
                // 20, 10 and 50 by 80, a loss of 80
                dueRun(flats(0, 1, 0, 3, 3, 3, 3, 3), 160, 40, 20, 0, 100));
    }

    private static void leftOver() {
        Check.that("rounded down, nothing left", () -> dueRun(used(1, 2, 3, 4), 20, 2, 4, 6, 8));
        Check.that("one left, to the greatest rest", () -> {
            // a loss of 1 by 1, 2, 3, 4 of 10: the rests are as these
            dueRun(used(1, 2, 3, 4), 11, 1, 2, 3, 5);
            dueRun(used(1, 4, 3, 2), 11, 1, 5, 3, 2);
        });
        Check.that("two and three left, to the greatest rests", () -> {
            // a loss of 2: the rests 2, 4, 6, 8
            dueRun(used(1, 2, 3, 4), 12, 1, 2, 4, 5);
            // a loss of 3: 3, 6, 9, 1 and 2
            dueRun(used(1, 2, 3, 4), 13, 1, 3, 4, 5);
            // a loss of 8: 8, 1 and 6, 2 and 4, 3 and 2
            dueRun(used(1, 2, 3, 4), 18, 2, 4, 5, 7);
        });
        Check.that("of the same rests to the lower number: one of four", () -> dueRun(flats(0, 1, 2, 3), 41,
                11, 10, 10, 10));
        Check.that("of the same rests to the lower number: two of four", () -> dueRun(flats(3, 2, 1, 0), 42,
                11, 11, 10, 10));
        Check.that("of the same rests to the lower number: three of four", () -> dueRun(flats(0, 1, 2, 3), 43,
                11, 11, 11, 10));
        Check.that("of the same rests to the lower number: not to one without volumes", () -> dueRun(flats(3, 2), 21,
                0, 0, 11, 10));
        Check.that("of the same rests to the lower number: a smaller one in between", () -> {
            // a loss of 1 by 2, 1, 2 of 5; a loss of 2 by the same
            dueRun(used(2, 1, 2), 6, 3, 1, 2, 0);
            dueRun(used(2, 1, 2), 7, 3, 1, 3, 0);
            // a loss of 3: 1 and 1, 3, 1 and 1
            dueRun(used(2, 1, 2), 8, 3, 2, 3, 0);
        });
    }

    private static void leftOverBelowZero() {
        Check.that("below 0 as well: the loss without its sign is rounded down", () -> {
            // a loss of -3 by 10, 10, 10, 10: 30 by 40 each, three are left
            dueRun(flats(0, 1, 2, 3), 37, 9, 9, 9, 10);
            dueRun(flats(0, 1, 2, 3), 38, 9, 9, 10, 10);
            dueRun(flats(0, 1, 2, 3), 39, 9, 10, 10, 10);
        });
        Check.that("below 0 as well: to those with the greatest rests", () -> {
            // a loss of -1 by 1, 2, 3, 4 of 10
            dueRun(used(1, 2, 3, 4), 9, 1, 2, 3, 3);
            // a loss of -2
            dueRun(used(1, 2, 3, 4), 8, 1, 2, 2, 3);
            // a loss of -8: 8, 1 and 6, 2 and 4, 3 and 2
            dueRun(used(1, 2, 3, 4), 2, 0, 0, 1, 1);
        });
        Check.that("a loss of all but one", () -> dueRun(flats(0, 1, 2, 3), 1, 0, 0, 0, 1));
    }

    private static void noVolumes() {
        Check.that("0 if there are no volumes: no points", () -> {
            MeterHouse house = new MeterHouse();
            house.pass(1);
            Check.due("the inflow", house.inflow(0, 1000000000), 0);
            Check.due("settle", house.settle(0), 1);
            dueSettled(house, 0, 0, 0, 0, 0);
        });
        Check.that("0 if there are no volumes: no point that was there", () -> {
            MeterHouse house = new MeterHouse();
            house.pass(1);
            house.point(0, MeterHouse.FLAT, 3, 1, 0);
            dueRun(house, 1, 0, 0, 0, 0);
        });
        Check.that("0 if there are no volumes: points without use", () -> dueRun(used(0, 0, 0, 0), 7, 0, 0, 0, 0));
        Check.that("0 if there are no volumes: no inflow as well", () -> dueRun(used(0, 0), 0, 0, 0, 0, 0));
        Check.that("one unit is a volume", () -> dueRun(used(0, 0, 1, 0), 7, 0, 0, 7, 0));
    }

    private static void largest() {
        Check.that("the greatest volumes, a loss below 0 above an int's square", () -> {
            MeterHouse house = new MeterHouse();
            for (int point = 0; point < 8; point++) {
                house.point(point == 7 ? 1 : 0, MeterHouse.SHOP, 6, 10, 1);
            }
            house.weather(0, 0, 0);
            house.weather(1, 1, 30);
            house.pass(1);
            for (int point = 0; point < 8; point++) {
                house.exchange(point, 0, 6, 10);
            }
            house.pass(1);
            house.inflow(1, 1);
            house.settle(1);
            // volumes 7 and 1 times 189999810, a loss of all but one: 7 eighths of it rounded down
            // leave the rest 1 of 8, an eighth leaves 7 of 8
            dueSettled(house, 1, 1, 0, 0, 0);
        });
        Check.that("the greatest inflow by small volumes", () -> {
            // 999999997 by 3
            dueRun(used(1, 1, 1), 1000000000, 333333334, 333333333, 333333333, 0);
            // 999999996 by 4, then 999999995 by 5: 199999999 and 799999996
            dueRun(used(4, MeterHouse.NONE, 1), 1000000000, 800000000, 0, 200000000, 0);
        });
    }
}
