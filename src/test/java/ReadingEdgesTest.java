/** Terms, "Readings"; Promises 5 to 7 and 19 to 21: each sentence at its edges. */
public final class ReadingEdgesTest {
    private static final int NONE = MeterHouse.NONE;

    public static void main(String[] args) {
        firstReading();
        uses();
        plausible();
        plausibleDays();
        doubts();
        confirmable();
        notConfirmable();
        confirmed();
        spreads();
        rests();
        paces();
        estimates();
        exchanges();
        newMeters();
        volumesAnew();
        Check.end();
    }

    private static MeterHouse withPoint(int kind, int digits, int multiplier, int shown, int days) {
        MeterHouse house = new MeterHouse();
        house.point(0, kind, digits, multiplier, shown);
        if (days > 0) {
            house.pass(days);
        }
        return house;
    }

    /** A FLAT of 5 digits that shows 0, so many days ago. */
    private static MeterHouse flat(int days) {
        return withPoint(MeterHouse.FLAT, 5, 1, 0, days);
    }

    private static void dueVolumes(MeterHouse house, int from, int... volumes) {
        for (int place = 0; place < volumes.length; place++) {
            int day = from + place;
            Check.due("volume of " + day, house.volume(0, day), volumes[place]);
            Check.due("volumeAnew of " + day, house.volumeAnew(0, day), volumes[place]);
        }
    }

    /** Compares pace, latest day, readings and the day that is doubted. */
    private static void dueOf(MeterHouse house, int pace, int latest, int taken, int doubted) {
        Check.due("the pace", house.of(0, 0), pace);
        Check.due("the latest day", house.of(0, 1), latest);
        Check.due("how many were taken", house.of(0, 2), taken);
        Check.due("the day that is doubted", house.of(0, 4), doubted);
    }

    private static void firstReading() {
        Check.that("what it showed as the point began counts as a reading of that day", () -> {
            MeterHouse house = withPoint(MeterHouse.FLAT, 3, 1, 5, 0);
            dueOf(house, 1000, 0, 1, NONE);
            Check.notNow("read on that day", () -> house.read(0, 5));
            Check.notNow("exchange on that day", () -> house.exchange(0, 5, 3, 1));
            Check.notNow("confirm on that day", () -> house.confirm(0));
            house.pass(1);
            Check.due("read on the next day", house.read(0, 5), 0);
        });
        Check.that("of a day that is not 0 as well", () -> {
            MeterHouse house = new MeterHouse();
            house.pass(9);
            house.point(0, MeterHouse.FLAT, 3, 1, 5);
            dueOf(house, 1000, 9, 1, NONE);
            Check.notNow("read on that day", () -> house.read(0, 5));
            Check.notNow("exchange on that day", () -> house.exchange(0, 5, 3, 1));
            house.pass(1);
            Check.due("exchange on the next day", house.exchange(0, 15, 3, 1), 10);
            dueVolumes(house, 9, 10);
        });
        Check.that("A reading of today was taken: none more on that day, one on the next", () -> {
            MeterHouse house = flat(1);
            Check.due("the first one", house.read(0, 3), 3);
            Check.notNow("the same again", () -> house.read(0, 3));
            Check.notNow("a greater one", () -> house.read(0, 4));
            Check.notNow("one that would be doubted", () -> house.read(0, 90000));
            dueOf(house, 300, 1, 2, NONE);
            house.pass(1);
            Check.due("the next day", house.read(0, 4), 1);
        });
    }

    private static void uses() {
        Check.that("a register that shows the same again has a use of 0", () -> {
            for (int shown : new int[] {0, 500, 999}) {
                MeterHouse house = withPoint(MeterHouse.FLAT, 3, 10, shown, 2);
                Check.due("the use", house.read(0, shown), 0);
                dueOf(house, 0, 2, 2, NONE);
                dueVolumes(house, 0, 0, 0);
            }
        });
        Check.that("a register that shows one more has a use of 1", () -> {
            for (int shown : new int[] {0, 500, 998}) {
                Check.due("the use", withPoint(MeterHouse.FLAT, 3, 1, shown, 1).read(0, shown + 1), 1);
            }
        });
        Check.that("a register that rolls over, by one", () -> {
            int[] most = {999, 9999, 99999, 999999};
            for (int digits = 3; digits <= 6; digits++) {
                MeterHouse house = withPoint(MeterHouse.FLAT, digits, 1, most[digits - 3], 1);
                Check.due("from the most to 0", house.read(0, 0), 1);
                house.pass(1);
                Check.due("from 0 to 1", house.read(0, 1), 1);
            }
        });
        Check.that("a register that is turned back by one has used all but one", () -> {
            int[] size = {1000, 10000, 100000, 1000000};
            for (int digits = 3; digits <= 6; digits++) {
                MeterHouse house = withPoint(MeterHouse.FLAT, digits, 1, 7, 1);
                Check.due("the use", house.exchange(0, 6, 3, 1), size[digits - 3] - 1);
            }
        });
        Check.that("the use is the difference times the multiplier, rolled over or not", () -> {
            Check.due("1 to 4, once", withPoint(MeterHouse.FLAT, 3, 1, 1, 1).read(0, 4), 3);
            Check.due("1 to 4, ten times", withPoint(MeterHouse.FLAT, 3, 10, 1, 1).read(0, 4), 30);
            Check.due("998 to 1, ten times", withPoint(MeterHouse.FLAT, 3, 10, 998, 1).read(0, 1), 30);
            Check.due("999998 to 1, ten times", withPoint(MeterHouse.FLAT, 6, 10, 999998, 1).read(0, 1), 30);
        });
        Check.that("the use is above the latest reading, not above an earlier one", () -> {
            MeterHouse house = withPoint(MeterHouse.FLAT, 3, 1, 990, 1);
            Check.due("990 to 5", house.read(0, 5), 15);
            house.pass(1);
            Check.due("5 to 6", house.read(0, 6), 1);
            house.pass(50);
            Check.due("6 to 5", house.read(0, 5), 999);
        });
    }

    private static void duePlausible(MeterHouse in, MeterHouse out, int shown, int use) {
        Check.due("at most 20 times the weights", in.read(0, shown), use);
        Check.due("one more", out.read(0, shown + 1), NONE);
        Check.due("the day that is doubted", out.of(0, 4), out.of(0, 1) + 1);
    }

    private static void plausible() {
        Check.that("plausible at most 20 times the weight of a FLAT", () -> duePlausible(
                withPoint(MeterHouse.FLAT, 4, 1, 0, 1), withPoint(MeterHouse.FLAT, 4, 1, 0, 1), 200, 200));
        Check.that("plausible at most 20 times the weight of a HOUSE", () -> duePlausible(
                withPoint(MeterHouse.HOUSE, 4, 1, 0, 1), withPoint(MeterHouse.HOUSE, 4, 1, 0, 1), 400, 400));
        Check.that("plausible at most 20 times the weight of a SHOP", () -> duePlausible(
                withPoint(MeterHouse.SHOP, 4, 1, 0, 1), withPoint(MeterHouse.SHOP, 4, 1, 0, 1), 700, 700));
        Check.that("plausible by the use, with the multiplier", () -> {
            duePlausible(withPoint(MeterHouse.FLAT, 4, 2, 0, 1), withPoint(MeterHouse.FLAT, 4, 2, 0, 1), 100, 200);
            duePlausible(withPoint(MeterHouse.FLAT, 4, 3, 0, 1), withPoint(MeterHouse.FLAT, 4, 3, 0, 1), 66, 198);
            duePlausible(withPoint(MeterHouse.FLAT, 4, 10, 0, 1), withPoint(MeterHouse.FLAT, 4, 10, 0, 1), 20, 200);
        });
        Check.that("plausible as it rolls over", () -> duePlausible(withPoint(MeterHouse.FLAT, 3, 1, 900, 1),
                withPoint(MeterHouse.FLAT, 3, 1, 900, 1), 100, 200));
    }

    /** A HOUSE that begins on the day 0, which weighs 10; the day 1 weighs 40, the day 2 25. */
    private static MeterHouse uneven(int days) {
        MeterHouse house = withPoint(MeterHouse.HOUSE, 5, 1, 0, 0);
        house.weather(0, 0, 0);
        house.weather(1, 1, 30);
        house.weather(2, 2, 15);
        house.pass(days);
        return house;
    }

    private static void plausibleDays() {
        Check.that("the weights of the days since the latest one, its own not", () ->
                duePlausible(uneven(1), uneven(1), 200, 200));
        Check.that("the weights of the days since the latest one, that included", () -> {
            MeterHouse in = uneven(1);
            MeterHouse out = uneven(1);
            in.read(0, 0);
            out.read(0, 0);
            in.pass(1);
            out.pass(1);
            duePlausible(in, out, 800, 800);
        });
        Check.that("the weights of the days, together", () -> {
            Check.due("20 times 75", uneven(3).read(0, 1500), 1500);
            Check.due("20 times 75 and 1", uneven(3).read(0, 1501), NONE);
        });
        Check.that("a doubted one is not the latest one", () -> {
            MeterHouse house = flat(1);
            Check.due("201 on a day", house.read(0, 201), NONE);
            house.pass(1);
            Check.due("401 on two days", house.read(0, 401), NONE);
            Check.due("400 on two days", house.read(0, 400), 400);
        });
        Check.that("a use of all that the digits can show is plausible, once the days are enough", () -> {
            Check.due("999 on four days", withPoint(MeterHouse.FLAT, 3, 1, 1, 4).read(0, 0), NONE);
            Check.due("999 on five days", withPoint(MeterHouse.FLAT, 3, 1, 1, 5).read(0, 0), 999);
        });
    }

    private static void doubts() {
        Check.that("A reading that is not plausible: nothing else is done", () -> {
            MeterHouse house = flat(2);
            house.tariff(0, 1, 1000, 1);
            house.read(0, 20);
            house.pass(2);
            house.bill(0);
            Check.due("the answer", house.read(0, 9000), NONE);
            dueOf(house, 1000, 2, 2, 4);
            dueVolumes(house, 0, 10, 10, 10, 10);
            Check.dueText("the word", Check.word(house, 0, 2), "e10/s0");
            Check.due("a bill then", house.bill(0), 0);
            Check.due("the use from the one that was taken", house.read(0, 21), 1);
        });
        Check.that("it is kept in place of one that was kept, of the same day", () -> {
            MeterHouse house = flat(1);
            house.read(0, 5000);
            house.read(0, 4000);
            Check.due("the day", house.of(0, 4), 1);
            Check.due("the use", house.confirm(0), 4000);
        });
        Check.that("it is kept, with its day, in place of one that was kept, of a day ahead", () -> {
            MeterHouse house = flat(1);
            house.read(0, 5000);
            house.pass(1);
            Check.due("the day of the first", house.of(0, 4), 1);
            house.read(0, 7000);
            Check.due("the day of the second", house.of(0, 4), 2);
            house.pass(1);
            Check.due("the use", house.confirm(0), 7000);
            dueVolumes(house, 0, 3500, 3500);
        });
        Check.that("a call that throws keeps the doubt as it is", () -> {
            MeterHouse house = withPoint(MeterHouse.FLAT, 4, 1, 0, 1);
            house.read(0, 5000);
            house.pass(1);
            Check.outOfRange("read of too much", () -> house.read(0, 10000));
            Check.outOfRange("exchange for 7 digits", () -> house.exchange(0, 1, 7, 1));
            Check.due("the day", house.of(0, 4), 1);
            Check.due("the use", house.confirm(0), 5000);
        });
    }

    private static void confirmable() {
        Check.that("it can be confirmed on its day, the next one and long behind it", () -> {
            for (int days : new int[] {0, 1, 2, 60}) {
                MeterHouse house = flat(3);
                house.read(0, 6000);
                if (days > 0) {
                    house.pass(days);
                }
                Check.due("the day that is doubted", house.of(0, 4), 3);
                Check.due("the use", house.confirm(0), 6000);
                dueOf(house, 200000, 3, 2, NONE);
                dueVolumes(house, 0, 2000, 2000, 2000);
            }
        });
        Check.that("a reading that was taken on the day ahead of it does not count", () -> {
            MeterHouse house = flat(1);
            house.read(0, 10);
            house.pass(1);
            house.read(0, 5010);
            Check.due("the day that is doubted", house.of(0, 4), 2);
            Check.due("the use", house.confirm(0), 5000);
            dueVolumes(house, 0, 10, 5000);
        });
        Check.that("behind a confirmed one there can be another doubt", () -> {
            MeterHouse house = flat(1);
            house.read(0, 5000);
            house.confirm(0);
            house.pass(1);
            house.read(0, 9000);
            Check.due("the day that is doubted", house.of(0, 4), 2);
            Check.due("the use", house.confirm(0), 4000);
            dueOf(house, 400000, 2, 3, NONE);
        });
    }

    private static void notConfirmable() {
        Check.that("there is none that is doubted", () -> {
            Check.notNow("on the first day", () -> flat(0).confirm(0));
            Check.notNow("later", () -> flat(5).confirm(0));
            MeterHouse taken = flat(1);
            taken.read(0, 5);
            Check.notNow("behind one that was taken", () -> taken.confirm(0));
            MeterHouse twice = flat(1);
            twice.read(0, 5000);
            twice.confirm(0);
            Check.notNow("behind one that was confirmed", () -> twice.confirm(0));
            twice.pass(1);
            Check.notNow("a day behind that", () -> twice.confirm(0));
        });
        Check.that("another one was taken since that day, that day with it", () -> {
            for (int days = 0; days <= 2; days++) {
                MeterHouse house = flat(1);
                house.read(0, 5000);
                if (days > 0) {
                    house.pass(days);
                }
                Check.due("the other one", house.read(0, 7), 7);
                Check.due("the day that is doubted", house.of(0, 4), NONE);
                Check.notNow("confirm", () -> house.confirm(0));
                house.pass(1);
                Check.notNow("confirm a day later", () -> house.confirm(0));
                Check.due("how many were taken", house.of(0, 2), 2);
            }
        });
        Check.that("the last reading of an exchanged meter is another one as well", () -> {
            for (int days = 0; days <= 2; days++) {
                MeterHouse house = flat(1);
                house.read(0, 5000);
                if (days > 0) {
                    house.pass(days);
                }
                house.exchange(0, 7, 5, 1);
                Check.due("the day that is doubted", house.of(0, 4), NONE);
                Check.notNow("confirm", () -> house.confirm(0));
                house.pass(1);
                Check.notNow("confirm a day later", () -> house.confirm(0));
            }
        });
        Check.that("a doubt of another point does not count", () -> {
            MeterHouse house = flat(0);
            house.point(0, MeterHouse.FLAT, 5, 1, 0);
            house.pass(1);
            house.read(0, 5000);
            Check.notNow("confirm the other one", () -> house.confirm(1));
            Check.due("the use of the other one", house.read(1, 4), 4);
            Check.due("the use", house.confirm(0), 5000);
        });
    }

    private static void confirmed() {
        Check.that("a confirmed reading is taken for its day", () -> {
            MeterHouse house = flat(2);
            house.read(0, 1000);
            house.pass(2);
            house.confirm(0);
            dueOf(house, 50000, 2, 2, NONE);
            dueVolumes(house, 0, 500, 500, 500, 500);
            Check.dueText("the day ahead of it", Check.word(house, 0, 1), "m500/s0");
            Check.dueText("its day", Check.word(house, 0, 2), "e500/s0");
        });
        Check.that("behind a confirmed reading of a day ahead one of today can be taken", () -> {
            MeterHouse house = flat(2);
            house.read(0, 1000);
            house.pass(1);
            house.confirm(0);
            Check.due("the use", house.read(0, 1003), 3);
            dueVolumes(house, 0, 500, 500, 3);
        });
        Check.that("a confirmed reading of today is one of today", () -> {
            MeterHouse house = flat(2);
            house.read(0, 1000);
            house.confirm(0);
            Check.notNow("read", () -> house.read(0, 1003));
            Check.notNow("exchange", () -> house.exchange(0, 1003, 5, 1));
        });
        Check.that("it may be a register that was turned back", () -> {
            MeterHouse house = withPoint(MeterHouse.FLAT, 5, 10, 500, 3);
            Check.due("500 to 499", house.read(0, 499), NONE);
            Check.due("the use", house.confirm(0), 999990);
            dueVolumes(house, 0, 333330, 333330, 333330);
            house.pass(1);
            Check.due("499 to 500", house.read(0, 500), 10);
        });
    }

    private static void spreads() {
        Check.that("its use is spread over the days since the latest one, that with them, its own not", () -> {
            MeterHouse house = flat(2);
            house.read(0, 40);
            house.pass(1);
            dueVolumes(house, 0, 20, 20, 20);
            house.read(0, 45);
            dueVolumes(house, 0, 20, 20, 5);
            house.pass(1);
            dueVolumes(house, 0, 20, 20, 5, 5);
        });
        Check.that("one day gets all of it", () -> {
            for (int use : new int[] {0, 1, 199, 200}) {
                MeterHouse house = flat(1);
                house.read(0, use);
                dueVolumes(house, 0, use);
            }
        });
        Check.that("by their weights", () -> {
            MeterHouse house = uneven(3);
            Check.due("10 times 75", house.read(0, 750), 750);
            dueVolumes(house, 0, 100, 400, 250);
        });
        Check.that("over 900 days, one unit less than days and one more", () -> {
            for (int use = 899; use <= 901; use++) {
                MeterHouse house = flat(60);
                for (int passed = 60; passed < 900; passed += 60) {
                    house.pass(60);
                }
                Check.due("the use", house.read(0, use), use);
                dueVolumes(house, 0, use == 901 ? 2 : 1, 1);
                dueVolumes(house, 898, 1, use == 899 ? 0 : 1);
            }
        });
    }

    private static void dueSpread(MeterHouse house, int use, int... volumes) {
        Check.due("the use", house.read(0, use), use);
        dueVolumes(house, 0, volumes);
    }

    private static void rests() {
        Check.that("what is left: nothing", () -> dueSpread(flat(3), 6, 2, 2, 2));
        Check.that("what is left: one of three, to the earlier", () -> dueSpread(flat(3), 7, 3, 2, 2));
        Check.that("what is left: two of three, to the earlier", () -> dueSpread(flat(3), 8, 3, 3, 2));
        Check.that("less units than days", () -> {
            dueSpread(flat(3), 0, 0, 0, 0);
            dueSpread(flat(3), 1, 1, 0, 0);
            dueSpread(flat(3), 2, 1, 1, 0);
            dueSpread(flat(3), 3, 1, 1, 1);
        });
        Check.that("to those with the greatest rests, later ones too", () -> {
            // by 10, 40, 25 of 75: the rests of 1 are 10, 40, 25
            dueSpread(uneven(3), 1, 0, 1, 0);
            // of 2: 20, 1 and 5, 50
            dueSpread(uneven(3), 2, 0, 1, 1);
            // of 3: 30, 1 and 45, 1 and 0
            dueSpread(uneven(3), 3, 0, 2, 1);
            // of 4: 40, 2 and 10, 1 and 25
            dueSpread(uneven(3), 4, 1, 2, 1);
            // of 6: 60, 3 and 15, 2 and 0
            dueSpread(uneven(3), 6, 1, 3, 2);
        });
        Check.that("of the same rests to the earlier ones, a smaller one in between them", () -> {
            for (int use = 1; use <= 3; use++) {
                MeterHouse house = withPoint(MeterHouse.HOUSE, 5, 1, 0, 0);
                house.weather(1, 1, 0);
                house.pass(3);
                // by 20, 10, 20 of 50: of 1 20, 10, 20; of 2 40, 20, 40; of 3 1 and 10, 30, 1 and 10
                dueSpread(house, use, 1, use == 3 ? 1 : 0, use == 1 ? 0 : 1);
            }
        });
        Check.that("by ones: never two for a day", () -> {
            MeterHouse house = withPoint(MeterHouse.SHOP, 5, 1, 0, 0);
            house.weather(0, 0, 30);
            house.weather(1, 3, 0);
            house.pass(4);
            // by 95, 5, 5, 5 of 110: of 4 3 and 50, 20, 20, 20
            dueSpread(house, 4, 4, 0, 0, 0);
            MeterHouse more = withPoint(MeterHouse.SHOP, 5, 1, 0, 0);
            more.weather(0, 0, 30);
            more.weather(1, 3, 0);
            more.pass(4);
            // of 13: 11 and 25, 65, 65, 65
            dueSpread(more, 13, 11, 1, 1, 0);
        });
    }

    private static void duePace(MeterHouse house, int use, int pace) {
        Check.due("the use", house.read(0, use), use);
        Check.due("the pace", house.of(0, 0), pace);
    }

    private static void paces() {
        Check.that("The pace of the point, 1000 at first", () -> {
            Check.due("on the first day", flat(0).of(0, 0), 1000);
            Check.due("60 days later", flat(60).of(0, 0), 1000);
        });
        Check.that("the use times 1000, divided by all weights, rounded down", () -> {
            duePace(flat(3), 0, 0);
            duePace(flat(3), 1, 33);
            duePace(flat(3), 29, 966);
            duePace(flat(3), 30, 1000);
            duePace(flat(3), 31, 1033);
            duePace(flat(3), 599, 19966);
            duePace(flat(3), 600, 20000);
            duePace(uneven(3), 74, 986);
            duePace(uneven(3), 75, 1000);
            duePace(uneven(3), 76, 1013);
        });
        Check.that("a pace so small that it is 0", () -> {
            MeterHouse house = flat(60);
            house.pass(50);
            // 1000 by 1100
            duePace(house, 1, 0);
            MeterHouse other = flat(60);
            other.pass(40);
            // 1000 by 1000
            duePace(other, 1, 1);
        });
        Check.that("the greatest pace", () -> {
            MeterHouse house = withPoint(MeterHouse.SHOP, 6, 10, 1, 0);
            house.weather(0, 0, 0);
            house.pass(1);
            Check.due("the use", house.exchange(0, 0, 3, 1), 9999990);
            Check.due("the pace", house.of(0, 0), 1999998000);
        });
        Check.that("it is by the latest use alone, from then on", () -> {
            MeterHouse house = flat(2);
            duePace(house, 200, 10000);
            house.pass(1);
            Check.due("the pace a day later", house.of(0, 0), 10000);
            Check.due("5 more", house.read(0, 205), 5);
            Check.due("the pace then", house.of(0, 0), 500);
            house.pass(1);
            Check.due("the same again", house.read(0, 205), 0);
            Check.due("the pace of nothing", house.of(0, 0), 0);
        });
    }

    private static void estimates() {
        Check.that("of a day behind the latest reading, its day with it, an estimate", () -> {
            MeterHouse house = flat(2);
            house.read(0, 50);
            house.pass(2);
            Check.dueText("the day ahead of it", Check.word(house, 0, 1), "m25/s0");
            Check.dueText("its day", Check.word(house, 0, 2), "e25/s0");
            Check.dueText("the day behind it", Check.word(house, 0, 3), "e25/s0");
        });
        Check.that("the pace times its weight, divided by 1000, rounded down", () -> {
            for (int use : new int[] {99, 100, 999, 1000, 1001, 1099, 1100}) {
                MeterHouse house = flat(60);
                house.pass(40);
                house.read(0, use);
                house.pass(1);
                // the pace is the use, as the weights are 1000
                dueVolumes(house, 100, use / 100);
            }
        });
        Check.that("by the weight of each day", () -> {
            MeterHouse house = withPoint(MeterHouse.HOUSE, 5, 1, 0, 1);
            house.weather(1, 1, 0);
            house.weather(2, 2, 30);
            house.weather(3, 3, 7);
            house.read(0, 3);
            house.pass(3);
            // 150 times 10, 40 and 17 by 1000
            dueVolumes(house, 1, 1, 6, 2);
        });
        Check.that("no estimate is left, once a reading is taken behind it", () -> {
            MeterHouse house = flat(5);
            dueVolumes(house, 0, 10, 10, 10, 10, 10);
            house.read(0, 0);
            dueVolumes(house, 0, 0, 0, 0, 0, 0);
        });
    }

    private static void exchanges() {
        Check.that("the old one is read last, which is taken whatever it is", () -> {
            int[][] lasts = {{0, 0}, {1, 1}, {200, 200}, {201, 201}, {999, 999}};
            for (int[] last : lasts) {
                MeterHouse house = withPoint(MeterHouse.FLAT, 3, 1, 0, 1);
                Check.due("the use", house.exchange(0, last[0], 3, 1), last[1]);
                dueOf(house, 100 * last[1], 1, 2, NONE);
                dueVolumes(house, 0, last[1]);
            }
            MeterHouse back = withPoint(MeterHouse.FLAT, 3, 1, 500, 1);
            Check.due("the use of one turned back", back.exchange(0, 499, 3, 1), 999);
        });
        Check.that("its use is by the old multiplier and the old digits", () -> {
            MeterHouse house = withPoint(MeterHouse.FLAT, 3, 7, 990, 1);
            Check.due("990 to 10", house.exchange(0, 10, 6, 2), 140);
        });
        Check.that("no exchange on a day on which a reading was taken", () -> {
            MeterHouse house = flat(1);
            house.read(0, 5);
            Check.notNow("exchange", () -> house.exchange(0, 5, 3, 1));
            house.pass(1);
            Check.due("exchange a day later", house.exchange(0, 5, 3, 1), 0);
            Check.notNow("exchange again", () -> house.exchange(0, 0, 3, 1));
            Check.notNow("read the new one", () -> house.read(0, 0));
            house.pass(1);
            Check.due("exchange on the next day", house.exchange(0, 0, 3, 1), 0);
        });
        Check.that("a reading that is doubted was not taken", () -> {
            MeterHouse house = flat(1);
            house.read(0, 5000);
            Check.due("exchange on that day", house.exchange(0, 5, 3, 1), 5);
            dueOf(house, 500, 1, 2, NONE);
        });
    }

    private static void newMeters() {
        Check.that("the new one shows 0, from which its first use is found", () -> {
            for (int shown : new int[] {0, 1, 20}) {
                MeterHouse house = withPoint(MeterHouse.FLAT, 3, 1, 0, 1);
                house.exchange(0, 150, 4, 10);
                house.pass(1);
                Check.due("the use", house.read(0, shown), 10 * shown);
                dueVolumes(house, 0, 150, 10 * shown);
            }
        });
        Check.that("that is no reading that is counted", () -> {
            MeterHouse house = flat(1);
            house.exchange(0, 5, 3, 1);
            dueOf(house, 500, 1, 2, NONE);
            house.pass(1);
            house.read(0, 5);
            dueOf(house, 500, 2, 3, NONE);
        });
        Check.that("the new one rolls over by its own digits", () -> {
            MeterHouse house = withPoint(MeterHouse.FLAT, 6, 1, 0, 1);
            house.exchange(0, 5, 3, 1);
            house.pass(1);
            house.read(0, 150);
            house.pass(60);
            Check.due("150 to 149", house.read(0, 149), 999);
        });
        Check.that("what can be shown is by the meter that is there", () -> {
            MeterHouse house = withPoint(MeterHouse.FLAT, 3, 1, 0, 1);
            Check.outOfRange("1000 on the old one", () -> house.exchange(0, 1000, 4, 1));
            house.exchange(0, 999, 4, 1);
            house.pass(1);
            Check.outOfRange("10000 on the new one", () -> house.read(0, 10000));
            Check.due("9999 on the new one", house.read(0, 9999), NONE);
            house.exchange(0, 9999, 3, 1);
            house.pass(1);
            Check.outOfRange("1000 on the third", () -> house.read(0, 1000));
            Check.due("999 on the third", house.read(0, 999), NONE);
        });
        Check.that("the first use of the new one is plausible from the day of the exchange", () -> {
            MeterHouse house = flat(30);
            house.exchange(0, 5, 5, 1);
            house.pass(1);
            Check.due("201 on a day", house.read(0, 201), NONE);
            Check.due("200 on a day", house.read(0, 200), 200);
        });
    }

    private static void volumesAnew() {
        Check.that("volumeAnew returns the same, found anew from the readings that were taken", () -> {
            MeterHouse house = new MeterHouse();
            house.weather(0, 999, 3);
            house.weather(4, 9, 29);
            house.pass(2);
            house.point(1, MeterHouse.SHOP, 4, 3, 9990);
            dueSame(house);
            int[] shown = {9990, 0, 7, 7, 5000, 3, 20, 21};
            for (int number : shown) {
                house.pass(3);
                dueSame(house);
                if (house.read(0, number) == NONE && number == 5000) {
                    house.pass(1);
                    dueSame(house);
                    house.confirm(0);
                }
                dueSame(house);
            }
            house.pass(2);
            house.exchange(0, 1, 3, 9);
            dueSame(house);
            house.pass(5);
            dueSame(house);
            house.read(0, 17);
            dueSame(house);
        });
        Check.that("from the readings of that point, whatever others were spread since", () -> {
            MeterHouse house = flat(0);
            house.point(0, MeterHouse.FLAT, 5, 1, 0);
            house.pass(3);
            house.read(0, 7);
            house.read(1, 80);
            dueVolumes(house, 0, 3, 2, 2);
            Check.due("the other one", house.volumeAnew(1, 0), 27);
            Check.due("this one again", house.volumeAnew(0, 0), 3);
            Check.due("the other one again", house.volumeAnew(1, 1), 27);
        });
        Check.that("without readings behind the first one it is an estimate", () -> {
            MeterHouse house = flat(4);
            house.read(0, 90000);
            for (int day = 0; day < 4; day++) {
                Check.due("volumeAnew of " + day, house.volumeAnew(0, day), 10);
            }
        });
    }

    private static void dueSame(MeterHouse house) {
        for (int day = 2; day < 60; day++) {
            int asked = day;
            Check.dueText("volumeAnew of " + day, Check.answer(() -> house.volumeAnew(0, asked)),
                    Check.answer(() -> house.volume(0, asked)));
        }
    }
}
