import java.util.function.Supplier;

/**
 * Terms, "Exceptions": the first line of a method's throws clause that applies decides. Each call
 * here would throw for two lines or more; what goes first is due, and what is left of them then.
 */
public final class OrderTest {
    private interface Call {
        long answer(MeterHouse house);
    }

    private static final String NO_SUCH = "throws.IndexOutOfBoundsException";
    private static final String OUT_OF_RANGE = "throws.IllegalArgumentException";
    private static final String NOT_NOW = "throws.IllegalStateException";

    public static void main(String[] args) {
        ofPoint();
        ofWeatherAndPass();
        ofReadings();
        ofSuppliers();
        ofBills();
        ofSettlement();
        ofWhatThereIs();
        Check.end();
    }

    private static void first(String said, Supplier<MeterHouse> made, String due, Call... calls) {
        Check.that(said, () -> {
            for (int place = 0; place < calls.length; place++) {
                MeterHouse house = made.get();
                Call call = calls[place];
                Check.dueText("call " + place, Check.answer(() -> call.answer(house)), due);
            }
        });
    }

    private static MeterHouse full() {
        MeterHouse house = new MeterHouse();
        for (int point = 0; point < 8; point++) {
            house.point(0, MeterHouse.FLAT, 3, 1, 0);
        }
        return house;
    }

    /** Today is 5, and the point was read today; the day 2 is settled three times. */
    private static MeterHouse house() {
        MeterHouse house = new MeterHouse();
        house.point(1, MeterHouse.FLAT, 3, 1, 0);
        house.pass(5);
        house.read(0, 50);
        house.credit(0, 98);
        for (int run = 0; run < 3; run++) {
            house.settle(2);
        }
        return house;
    }

    private static MeterHouse at(int today) {
        MeterHouse house = new MeterHouse();
        for (int day = 0; day < today; day += Math.min(60, today - day)) {
            house.pass(Math.min(60, today - day));
        }
        return house;
    }

    private static void ofPoint() {
        first("Promise 2: no such supplier, ahead of another argument", MeterHouse::new, NO_SUCH,
                h -> h.point(4, 3, 3, 1, 0), h -> h.point(-1, 0, 2, 1, 0), h -> h.point(4, 0, 3, 0, 0),
                h -> h.point(-1, 0, 3, 1, 1000), h -> h.point(4, -1, 7, 11, -1));
        first("Promise 2: no such supplier, ahead of 8 points", OrderTest::full, NO_SUCH,
                h -> h.point(4, 0, 3, 1, 0), h -> h.point(-1, 0, 3, 1, 0));
        first("Promise 2: another argument, ahead of 8 points", OrderTest::full, OUT_OF_RANGE,
                h -> h.point(0, 3, 3, 1, 0), h -> h.point(0, -1, 3, 1, 0), h -> h.point(0, 0, 2, 1, 0),
                h -> h.point(0, 0, 7, 1, 0), h -> h.point(0, 0, 3, 0, 0), h -> h.point(0, 0, 3, 11, 0),
                h -> h.point(0, 0, 3, 1, -1), h -> h.point(0, 0, 3, 1, 1000));
        first("Promise 2: no such supplier, ahead of both", OrderTest::full, NO_SUCH,
                h -> h.point(4, 3, 2, 0, -1), h -> h.point(-1, 3, 7, 11, 9999));
        first("Promise 2: 8 points at last", OrderTest::full, NOT_NOW, h -> h.point(3, 2, 6, 10, 999999));
    }

    private static void ofWeatherAndPass() {
        first("Promise 3: no such day, ahead of the degrees", () -> at(5), NO_SUCH,
                h -> h.weather(4, 9, 31), h -> h.weather(5, 1000, -1), h -> h.weather(9, 8, 31),
                h -> h.weather(1000, 1000, 31), h -> h.weather(-1, -1, -1));
        first("Promise 4: the days, ahead of above 900, on 900", () -> at(900), OUT_OF_RANGE,
                h -> h.pass(61), h -> h.pass(0), h -> h.pass(-1), h -> h.pass(Integer.MAX_VALUE));
        first("Promise 4: the days, ahead of above 900, on 840", () -> at(840), OUT_OF_RANGE, h -> h.pass(61));
        first("Promise 4: above 900 at last", () -> at(841), NOT_NOW, h -> h.pass(60));
    }

    private static void ofReadings() {
        first("Promise 5: no such point, ahead of what is shown", OrderTest::house, NO_SUCH,
                h -> h.read(1, -1), h -> h.read(-1, 1000), h -> h.read(8, 1000));
        first("Promise 5: what is shown, ahead of a reading of today", OrderTest::house, OUT_OF_RANGE,
                h -> h.read(0, -1), h -> h.read(0, 1000));
        first("Promise 5: a reading of today, ahead of a doubt", OrderTest::house, NOT_NOW,
                h -> h.read(0, 999), h -> h.read(0, 49), h -> h.read(0, 50));
        first("Promise 7: no such point, ahead of another argument", OrderTest::house, NO_SUCH,
                h -> h.exchange(1, -1, 3, 1), h -> h.exchange(-1, 0, 7, 1), h -> h.exchange(8, 0, 3, 0),
                h -> h.exchange(1, 1000, 2, 11));
        first("Promise 7: another argument, ahead of a reading of today", OrderTest::house, OUT_OF_RANGE,
                h -> h.exchange(0, -1, 3, 1), h -> h.exchange(0, 1000, 3, 1), h -> h.exchange(0, 60, 2, 1),
                h -> h.exchange(0, 60, 7, 1), h -> h.exchange(0, 60, 3, 0), h -> h.exchange(0, 60, 3, 11));
        first("Promise 7: a reading of today at last", OrderTest::house, NOT_NOW, h -> h.exchange(0, 999, 3, 1));
    }

    private static void ofSuppliers() {
        Supplier<MeterHouse> told = () -> {
            MeterHouse house = house();
            house.change(0, 2, 9);
            return house;
        };
        first("Promise 8: no such point, supplier or day, ahead of a change that is told", told, NO_SUCH,
                h -> h.change(1, 3, 9), h -> h.change(-1, 3, 9), h -> h.change(0, 4, 9), h -> h.change(0, -1, 9),
                h -> h.change(0, 3, 5), h -> h.change(0, 3, 1000));
        first("Promise 8: no such day, ahead of the supplier that it has", OrderTest::house, NO_SUCH,
                h -> h.change(0, 1, 5), h -> h.change(0, 1, 0), h -> h.change(0, 1, 1000));
        first("Promise 8: no such point, ahead of the supplier that it would have", OrderTest::house, NO_SUCH,
                h -> h.change(1, 1, 9), h -> h.change(8, 1, 9));
        first("Promise 8: a change that is told at last", told, NOT_NOW,
                h -> h.change(0, 3, 9), h -> h.change(0, 1, 6), h -> h.change(0, 2, 999));
        first("Promise 11: no such supplier, ahead of another argument", OrderTest::house, NO_SUCH,
                h -> tariff(h, 4, 101, 0, 0), h -> tariff(h, -1, 0, 1001, 0), h -> tariff(h, 4, 0, 0, -1));
    }

    private static long tariff(MeterHouse house, int supplier, int first, int block, int rest) {
        house.tariff(supplier, first, block, rest);
        return 0;
    }

    private static void ofBills() {
        first("Promise 13: no such point, ahead of the code", OrderTest::house, NO_SUCH,
                h -> h.credit(1, -1), h -> h.credit(-1, 99), h -> h.credit(8, 97));
        first("Promise 13: no such point, ahead of a code that was taken", OrderTest::house, NO_SUCH,
                h -> h.credit(1, 98), h -> h.credit(-1, 98), h -> h.credit(8, 98));
        first("Promise 13: a code that was taken at last", OrderTest::house, NOT_NOW, h -> h.credit(0, 98));
    }

    private static void ofSettlement() {
        first("Promise 16: no such day, ahead of the units", OrderTest::house, NO_SUCH,
                h -> h.inflow(5, -1), h -> h.inflow(-1, 1000000001), h -> h.inflow(900, -1));
        first("Promise 16: the units, ahead of a day that was settled", OrderTest::house, OUT_OF_RANGE,
                h -> h.inflow(2, -1), h -> h.inflow(2, 1000000001));
        first("Promise 16: a day that was settled at last", OrderTest::house, NOT_NOW, h -> h.inflow(2, 0));
        first("Promise 17: no such day, ahead of 3 runs", OrderTest::house, NO_SUCH,
                h -> h.settle(5), h -> h.settle(-1));
        first("Promise 17: 3 runs at last", OrderTest::house, NOT_NOW, h -> h.settle(2));
        first("Promise 18: no such day or supplier", OrderTest::house, NO_SUCH,
                h -> h.settled(5, 4), h -> h.settled(-1, -1), h -> h.settled(5, 0), h -> h.settled(2, 4));
    }

    private static void ofWhatThereIs() {
        first("Promise 21: no such point, ahead of what", OrderTest::house, NO_SUCH,
                h -> h.of(1, 5), h -> h.of(-1, -1), h -> h.of(8, 5));
        first("Promise 22: no such point, day or place", OrderTest::house, NO_SUCH,
                h -> h.word(1, 5, -1), h -> h.word(0, 5, -1), h -> h.word(0, 2, -1), h -> h.word(1, 2, 0));
        first("Promises 19, 20: no such point or day", OrderTest::house, NO_SUCH,
                h -> h.volume(1, 5), h -> h.volumeAnew(1, 5), h -> h.volume(-1, 2), h -> h.volumeAnew(-1, 2));
    }
}
