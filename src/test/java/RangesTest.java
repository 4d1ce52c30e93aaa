import java.util.function.Supplier;

/**
 * Promises 1 to 22, the ranges of their arguments: the ends of each are taken, what is next to them
 * and what is far from them is refused, by the exception that the document names.
 */
public final class RangesTest {
    private interface Call {
        long answer(MeterHouse house, int value);
    }

    /** What a value that was taken has done. */
    private interface Look {
        void at(MeterHouse house, int value);
    }

    private static final String NO_SUCH = "throws.IndexOutOfBoundsException";
    private static final String OUT_OF_RANGE = "throws.IllegalArgumentException";
    private static final String NOT_NOW = "throws.IllegalStateException";
    private static final int[] MOST_SHOWN = {999, 9999, 99999, 999999};

    public static void main(String[] args) {
        ofPoint();
        ofWeather();
        ofPass();
        ofRead();
        ofExchange();
        ofChange();
        ofTariff();
        ofCredit();
        ofSuppliersAndWhat();
        ofPassedDays();
        ofDaysOfAPoint();
        ofPlace();
        ofPoints();
        Check.end();
    }

    /** Each value is tried on a house of its own. */
    private static void ends(String said, int least, int most, String refused, Supplier<MeterHouse> made,
            Call call, Look look) {
        Check.that(said, () -> {
            for (int value : new int[] {least, most}) {
                MeterHouse house = made.get();
                Check.dueText(value + " is taken", Check.outcome(() -> call.answer(house, value)), "nothing");
                look.at(house, value);
            }
            for (int value : new int[] {least - 1, most + 1, Integer.MIN_VALUE, Integer.MAX_VALUE}) {
                MeterHouse house = made.get();
                Check.dueText(value + " is refused", Check.answer(() -> call.answer(house, value)), refused);
            }
        });
    }

    private static MeterHouse withPoint(int kind, int digits, int shown, int days) {
        MeterHouse house = new MeterHouse();
        house.point(1, kind, digits, 1, shown);
        if (days > 0) {
            house.pass(days);
        }
        return house;
    }

    private static MeterHouse flat(int days) {
        return withPoint(MeterHouse.FLAT, 3, 0, days);
    }

    private static void ofPoint() {
        ends("Promise 2, supplier: 0 to 3", 0, 3, NO_SUCH, MeterHouse::new,
                (h, v) -> h.point(v, 0, 3, 1, 0), (h, v) -> Check.due("its supplier", h.of(0, 3), v));
        ends("Promise 2, kind: FLAT to SHOP", MeterHouse.FLAT, MeterHouse.SHOP, OUT_OF_RANGE, MeterHouse::new,
                (h, v) -> h.point(0, v, 3, 1, 0), (h, v) -> {
                    h.pass(1);
                    Check.due("the weight of a day", h.volume(0, 0), v == MeterHouse.FLAT ? 10 : 35);
                });
        ends("Promise 2, digits: 3 to 6", 3, 6, OUT_OF_RANGE, MeterHouse::new,
                (h, v) -> h.point(0, 0, v, 1, 1), (h, v) -> {
                    h.pass(1);
                    Check.due("from 1 to 0", h.exchange(0, 0, 3, 1), MOST_SHOWN[v - 3]);
                });
        ends("Promise 2, multiplier: 1 to 10", 1, 10, OUT_OF_RANGE, MeterHouse::new,
                (h, v) -> h.point(0, 0, 3, v, 0), (h, v) -> {
                    h.pass(1);
                    Check.due("from 0 to 7", h.read(0, 7), 7 * v);
                });
        for (int digits = 3; digits <= 6; digits++) {
            int of = digits;
            ends("Promise 2, shown: 0 to what the digits can show, " + of, 0, MOST_SHOWN[of - 3], OUT_OF_RANGE,
                    MeterHouse::new, (h, v) -> h.point(0, 0, of, 1, v), (h, v) -> {
                        h.pass(1);
                        Check.due("from that to that", h.read(0, v), 0);
                    });
        }
    }

    private static MeterHouse at(int today) {
        MeterHouse house = new MeterHouse();
        house.point(1, MeterHouse.FLAT, 3, 1, 0);
        for (int day = 0; day < today; day += Math.min(60, today - day)) {
            house.pass(Math.min(60, today - day));
        }
        return house;
    }

    private static void ofWeather() {
        for (int today : new int[] {0, 1, 7, 899, 900}) {
            ends("Promise 3, from: today to 999, on the day " + today, today, 999, NO_SUCH, () -> at(today),
                    (h, v) -> h.weather(v, 999, 3),
                    (h, v) -> Check.due("days to 999 with others then", h.weather(v, 999, 4), 1000 - v));
        }
        for (int from : new int[] {7, 8, 998, 999}) {
            ends("Promise 3, to: from to 999, from " + from, from, 999, NO_SUCH, () -> at(7),
                    (h, v) -> h.weather(from, v, 3),
                    (h, v) -> Check.due("days up to it with others then", h.weather(from, v, 4), v - from + 1));
        }
        ends("Promise 3, degrees: 0 to 30", 0, 30, OUT_OF_RANGE, () -> withPoint(MeterHouse.HOUSE, 3, 0, 0),
                (h, v) -> h.weather(0, 0, v), (h, v) -> {
                    h.pass(1);
                    Check.due("the weight of the day", h.volume(0, 0), 10 + v);
                });
    }

    private static void ofPass() {
        ends("Promise 4, days: 1 to 60", 1, 60, OUT_OF_RANGE, () -> at(0), (h, v) -> h.pass(v),
                (h, v) -> Check.due("days that have passed", h.pass(1), v + 1));
        for (int today : new int[] {840, 841, 870, 898, 899}) {
            Check.that("Promise 4, throws if it would be above 900, on the day " + today, () -> {
                int most = 900 - today;
                Check.due("up to 900", at(today).pass(most), 900);
                Check.dueText("one more", Check.answer(() -> at(today).pass(most + 1)),
                        most < 60 ? NOT_NOW : OUT_OF_RANGE);
            });
        }
        Check.that("Promise 4, throws if it would be above 900, on the day 900", () -> {
            Check.notNow("one day", () -> at(900).pass(1));
            Check.notNow("60 days", () -> at(900).pass(60));
        });
    }

    private static void ofRead() {
        for (int digits = 3; digits <= 6; digits++) {
            int most = MOST_SHOWN[digits - 3];
            int of = digits;
            ends("Promise 5, shown: 0 to what the digits can show, " + of, 0, most, OUT_OF_RANGE,
                    () -> withPoint(MeterHouse.FLAT, of, most, 1), (h, v) -> h.read(0, v),
                    (h, v) -> Check.due("how many were taken", h.of(0, 2), 2));
            ends("Promise 5, shown, behind an exchange for " + of, 0, most, OUT_OF_RANGE, () -> {
                MeterHouse house = flat(1);
                house.exchange(0, 5, of, 1);
                house.pass(1);
                return house;
            }, (h, v) -> h.read(0, v), (h, v) -> Check.due("what is doubted", h.of(0, 4), v == 0 ? -1 : 2));
        }
    }

    private static void ofExchange() {
        for (int digits = 3; digits <= 6; digits++) {
            int of = digits;
            ends("Promise 7, last: 0 to what its digits can show, " + of, 0, MOST_SHOWN[of - 3], OUT_OF_RANGE,
                    () -> withPoint(MeterHouse.FLAT, of, 0, 1), (h, v) -> h.exchange(0, v, 9 - of, 1),
                    (h, v) -> Check.due("its volume", h.volume(0, 0), v));
        }
        ends("Promise 7, digits: 3 to 6, of the new one", 3, 6, OUT_OF_RANGE, () -> flat(1),
                (h, v) -> h.exchange(0, 0, v, 1), (h, v) -> {
                    h.pass(1);
                    Check.due("from 0 to the most", h.exchange(0, MOST_SHOWN[v - 3], 3, 1), MOST_SHOWN[v - 3]);
                });
        ends("Promise 7, multiplier: 1 to 10, of the new one", 1, 10, OUT_OF_RANGE, () -> flat(1),
                (h, v) -> h.exchange(0, 3, 3, v), (h, v) -> {
                    h.pass(1);
                    Check.due("from 0 to 7", h.read(0, 7), 7 * v);
                });
    }

    private static void ofChange() {
        ends("Promise 8, supplier: 0 to 3", 0, 3, NO_SUCH, () -> flat(0), (h, v) -> h.change(0, v, 1),
                (h, v) -> {
                    h.pass(1);
                    Check.due("its supplier", h.of(0, 3), v);
                });
        for (int today : new int[] {0, 5, 899, 900}) {
            ends("Promise 8, day: behind today, to 999, on the day " + today, today + 1, 999, NO_SUCH,
                    () -> at(today), (h, v) -> h.change(0, 2, v),
                    (h, v) -> Check.due("the day for which it was told", h.object(0), v));
        }
    }

    private static long tariff(MeterHouse house, int supplier, int first, int block, int rest) {
        house.tariff(supplier, first, block, rest);
        return 0;
    }

    private static void ofTariff() {
        ends("Promise 11, supplier: 0 to 3", 0, 3, NO_SUCH, () -> {
            MeterHouse house = new MeterHouse();
            for (int supplier = 0; supplier < 4; supplier++) {
                house.point(supplier, MeterHouse.FLAT, 3, 1, 0);
            }
            return house;
        }, (h, v) -> tariff(h, v, 1, 1000, 0), (h, v) -> {
            h.pass(1);
            for (int point = 0; point < 4; point++) {
                Check.due("the bill of a point of " + point, h.bill(point), point == v ? 10 : 0);
            }
        });
        ends("Promise 11, first: 0 to 100", 0, 100, OUT_OF_RANGE, () -> flat(0),
                (h, v) -> tariff(h, 1, v, 1000, 7), (h, v) -> dueBillOfADay(h, 10 * v));
        ends("Promise 11, block: 0 to 1000", 0, 1000, OUT_OF_RANGE, () -> {
            MeterHouse house = withPoint(MeterHouse.FLAT, 4, 0, 0);
            house.pass(1);
            house.exchange(0, 1001, 4, 1);
            return house;
        }, (h, v) -> tariff(h, 1, 3, v, 7), (h, v) -> {
            // a day of 1001 units behind the first one, which was for nothing
            h.pass(1);
            Check.due("the bill", h.bill(0), v == 0 ? 7007 : 3007);
        });
        ends("Promise 11, rest: 0 to 100", 0, 100, OUT_OF_RANGE, () -> flat(0),
                (h, v) -> tariff(h, 1, 7, 0, v), (h, v) -> dueBillOfADay(h, 10 * v));
    }

    private static void dueBillOfADay(MeterHouse house, long cents) {
        house.pass(1);
        Check.due("the bill of a day of 10 units", house.bill(0), cents);
    }

    private static void ofCredit() {
        Check.that("Promise 13, code: 0 or more", () -> {
            Check.due("code 0", flat(0).credit(0, 0), 0);
            for (int code : new int[] {-1, -97, -98, -99, Integer.MIN_VALUE, Integer.MIN_VALUE + 1}) {
                Check.outOfRange("code " + code, () -> flat(0).credit(0, code));
            }
        });
        Check.that("Promise 13, code, the greatest one", () -> {
            // 97 times 22139006 are 2147483582, and its rest by 97 is 17
            Check.due("code 2147483599", flat(0).credit(0, 2147483599), 6);
            for (int code : new int[] {2147483598, 2147483600, Integer.MAX_VALUE - 1, Integer.MAX_VALUE}) {
                Check.outOfRange("code " + code, () -> flat(0).credit(0, code));
            }
        });
    }

    private static void ofSuppliersAndWhat() {
        ends("Promise 15, supplier: 0 to 3", 0, 3, NO_SUCH, () -> flat(2), (h, v) -> h.income(v),
                (h, v) -> Check.due("what it has", h.income(v), 0));
        ends("Promise 18, supplier: 0 to 3", 0, 3, NO_SUCH, () -> flat(2), (h, v) -> h.settled(1, v),
                (h, v) -> Check.due("what it has", h.settled(1, v), 0));
        ends("Promise 21, what: 0 to 4", 0, 4, OUT_OF_RANGE, () -> flat(2), (h, v) -> h.of(0, v),
                (h, v) -> Check.due("what it tells", h.of(0, v), v == 0 ? 1000 : MeterHouse.NONE));
    }

    private static void ofPassedDays() {
        for (int today : new int[] {1, 2, 60, 900}) {
            String on = ", day: 0 to the one ahead of today, on the day " + today;
            ends("Promise 16" + on, 0, today - 1, NO_SUCH, () -> at(today), (h, v) -> h.inflow(v, 5),
                    (h, v) -> Check.due("the one before", h.inflow(v, 6), 5));
            ends("Promise 17" + on, 0, today - 1, NO_SUCH, () -> at(today), (h, v) -> h.settle(v),
                    (h, v) -> Check.due("the runs then", h.settle(v), 2));
            ends("Promise 18" + on, 0, today - 1, NO_SUCH, () -> at(today), (h, v) -> h.settled(v, 1),
                    (h, v) -> Check.due("units without a run", h.settled(v, 1), 0));
        }
        Check.that("Promises 16 to 18, day, on the day 0", () -> {
            Check.noSuch("inflow of 0", () -> at(0).inflow(0, 5));
            Check.noSuch("settle 0", () -> at(0).settle(0));
            Check.noSuch("settled of 0", () -> at(0).settled(0, 0));
            Check.noSuch("inflow of -1", () -> at(0).inflow(-1, 5));
            Check.noSuch("settle -1", () -> at(0).settle(-1));
            Check.noSuch("settled of -1", () -> at(0).settled(-1, 0));
        });
        ends("Promise 16, units: 0 to 1000000000", 0, 1000000000, OUT_OF_RANGE, () -> at(1),
                (h, v) -> h.inflow(0, v), (h, v) -> {
                    h.settle(0);
                    Check.due("what the one supplier has", h.settled(0, 1), v);
                });
    }

    /** A point that begins on a day, so many days ago. */
    private static MeterHouse begun(int first, int days) {
        MeterHouse house = at(first);
        house.point(2, MeterHouse.HOUSE, 3, 1, 0);
        house.pass(days);
        return house;
    }

    private static void ofDaysOfAPoint() {
        for (int first : new int[] {0, 1, 60, 840, 899}) {
            int days = Math.min(60, 900 - first);
            String on = ", day: from its first one to the one ahead of today, from " + first;
            Supplier<MeterHouse> made = () -> begun(first, days);
            int last = first + days - 1;
            ends("Promise 19" + on, first, last, NO_SUCH, made, (h, v) -> h.volume(1, v),
                    (h, v) -> Check.due("its units", h.volume(1, v), 20));
            ends("Promise 20" + on, first, last, NO_SUCH, made, (h, v) -> h.volumeAnew(1, v),
                    (h, v) -> Check.due("its units", h.volumeAnew(1, v), 20));
            ends("Promise 22" + on, first, last, NO_SUCH, made, (h, v) -> h.word(1, v, 0),
                    (h, v) -> Check.dueText("its word", Check.word(h, 1, v), "e20/s2"));
        }
        for (int first : new int[] {0, 1, 900}) {
            Check.that("Promises 19, 20, 22, day, on the first one, " + first, () -> {
                MeterHouse house = at(first);
                house.point(2, MeterHouse.HOUSE, 3, 1, 0);
                for (int day = first - 1; day <= first + 1; day++) {
                    int asked = day;
                    Check.noSuch("volume of " + day, () -> house.volume(1, asked));
                    Check.noSuch("volumeAnew of " + day, () -> house.volumeAnew(1, asked));
                    Check.noSuch("word of " + day, () -> house.word(1, asked, 0));
                }
            });
        }
    }

    private static void ofPlace() {
        Check.that("Promise 22, place: from 0 on", () -> {
            MeterHouse house = flat(1);
            Check.due("place 0", house.word(0, 0, 0), 'e');
            Check.due("the greatest place", house.word(0, 0, Integer.MAX_VALUE), ' ');
            Check.noSuch("place -1", () -> house.word(0, 0, -1));
            Check.noSuch("the least place", () -> house.word(0, 0, Integer.MIN_VALUE));
        });
    }

    /** Today is 3; each point had a change for the day 2, and has a doubt of today. */
    private static MeterHouse withPoints(int count) {
        MeterHouse house = new MeterHouse();
        for (int point = 0; point < count; point++) {
            house.point(1, MeterHouse.HOUSE, 4, 1, 0);
            house.change(point, 2, 2);
        }
        house.pass(3);
        for (int point = 0; point < count; point++) {
            house.read(point, 9000);
        }
        return house;
    }

    private static MeterHouse withChangesTold(int count) {
        MeterHouse house = withPoints(count);
        for (int point = 0; point < count; point++) {
            house.change(point, 3, 9);
        }
        return house;
    }

    private static void ofPoints() {
        pointsOf("Promise 5", (h, v) -> h.read(v, 60));
        pointsOf("Promise 6", (h, v) -> h.confirm(v));
        pointsOf("Promise 7", (h, v) -> h.exchange(v, 60, 4, 1));
        pointsOf("Promise 8", (h, v) -> h.change(v, 3, 4));
        for (int count : new int[] {1, 3, 8}) {
            ends("Promise 9, point: a point of " + count, 0, count - 1, NO_SUCH, () -> withChangesTold(count),
                    (h, v) -> h.object(v), (h, v) -> Check.notNow("object again", () -> h.object(v)));
        }
        pointsOf("Promise 10", (h, v) -> h.reverse(v));
        pointsOf("Promise 12", (h, v) -> h.bill(v));
        pointsOf("Promise 13", (h, v) -> h.credit(v, 98));
        pointsOf("Promise 14", (h, v) -> h.account(v));
        pointsOf("Promise 19", (h, v) -> h.volume(v, 2));
        pointsOf("Promise 20", (h, v) -> h.volumeAnew(v, 2));
        pointsOf("Promise 21", (h, v) -> h.of(v, 0));
        pointsOf("Promise 22", (h, v) -> h.word(v, 2, 0));
    }

    private static void pointsOf(String promise, Call call) {
        for (int count : new int[] {1, 3, 8}) {
            ends(promise + ", point: a point of " + count, 0, count - 1, NO_SUCH, () -> withPoints(count), call,
                    (h, v) -> { });
        }
        Check.that(promise + ", point: without points", () -> {
            for (int point : new int[] {0, -1, 7, 8}) {
                Check.noSuch("the point " + point, () -> call.answer(withPoints(0), point));
            }
        });
    }
}
