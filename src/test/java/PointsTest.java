/** Promises 1 to 4: a new object, point, weather, pass. */
public final class PointsTest {
    public static void main(String[] args) {
        newObject();
        pointNumbers();
        pointRanges();
        pointOrderOfThrows();
        weightsOfClasses();
        weatherCounts();
        weatherRanges();
        passes();
        passesUpTo900();
        Check.end();
    }

    private static void newObject() {
        MeterHouse house = new MeterHouse();
        Check.noSuch("of(0, 0) of a new object", () -> house.of(0, 0));
        Check.noSuch("account(0) of a new object", () -> house.account(0));
        Check.noSuch("inflow(0, 1) on the day 0", () -> house.inflow(0, 1));
        for (int supplier = 0; supplier < 4; supplier++) {
            Check.due("income(" + supplier + ") of a new object", house.income(supplier), 0);
        }
        Check.due("weather(0, 999, 10) of a new object", house.weather(0, 999, 10), 0);
        Check.due("pass(1) of a new object", house.pass(1), 1);
        Check.due("settled(0, 0) of a new object", house.settled(0, 0), 0);
    }

    private static void pointNumbers() {
        MeterHouse house = new MeterHouse();
        for (int number = 0; number < 8; number++) {
            Check.due("point " + number, house.point(number % 4, number % 3, 3 + number % 4, 10, 0), number);
            Check.due("of(.., 1) of point " + number, house.of(number, 1), 5 * number);
            Check.due("of(.., 3) of point " + number, house.of(number, 3), number % 4);
            house.pass(5);
        }
        Check.notNow("a ninth point", () -> house.point(0, 0, 3, 1, 0));
        Check.outOfRange("a ninth point of no class", () -> house.point(0, 3, 3, 1, 0));
        Check.noSuch("a ninth point of no supplier", () -> house.point(4, 3, 3, 1, 0));
        Check.noSuch("of(8, 0)", () -> house.of(8, 0));
        Check.due("of(7, 0)", house.of(7, 0), 1000);
        Check.due("of(7, 2)", house.of(7, 2), 1);
        Check.due("of(7, 4)", house.of(7, 4), MeterHouse.NONE);
    }

    private static void pointRanges() {
        MeterHouse house = new MeterHouse();
        Check.due("least of all", house.point(0, 0, 3, 1, 0), 0);
        Check.due("most of all", house.point(3, 2, 6, 10, 999999), 1);
        Check.due("3 digits show 999", house.point(0, 0, 3, 1, 999), 2);
        Check.due("4 digits show 9999", house.point(0, 0, 4, 1, 9999), 3);
        Check.due("5 digits show 99999", house.point(0, 0, 5, 1, 99999), 4);
        Check.noSuch("supplier -1", () -> house.point(-1, 0, 3, 1, 0));
        Check.noSuch("supplier 4", () -> house.point(4, 0, 3, 1, 0));
        Check.outOfRange("kind -1", () -> house.point(0, -1, 3, 1, 0));
        Check.outOfRange("kind 3", () -> house.point(0, 3, 3, 1, 0));
        Check.outOfRange("digits 2", () -> house.point(0, 0, 2, 1, 0));
        Check.outOfRange("digits 7", () -> house.point(0, 0, 7, 1, 0));
        Check.outOfRange("multiplier 0", () -> house.point(0, 0, 3, 0, 0));
        Check.outOfRange("multiplier 11", () -> house.point(0, 0, 3, 11, 0));
        Check.outOfRange("shown -1", () -> house.point(0, 0, 3, 1, -1));
        Check.outOfRange("3 digits and 1000", () -> house.point(0, 0, 3, 1, 1000));
        Check.outOfRange("4 digits and 10000", () -> house.point(0, 0, 4, 1, 10000));
        Check.outOfRange("5 digits and 100000", () -> house.point(0, 0, 5, 1, 100000));
        Check.outOfRange("6 digits and 1000000", () -> house.point(0, 0, 6, 1, 1000000));
        Check.due("the point behind the refused ones", house.point(0, 0, 3, 1, 0), 5);
    }

    private static void pointOrderOfThrows() {
        MeterHouse house = new MeterHouse();
        Check.noSuch("no supplier and no class", () -> house.point(9, 9, 9, 99, -9));
        Check.outOfRange("digits beyond all", () -> house.point(0, 0, Integer.MAX_VALUE, 1, 0));
        Check.outOfRange("digits below all", () -> house.point(0, 0, Integer.MIN_VALUE, 1, 0));
    }

    private static void weightsOfClasses() {
        MeterHouse house = new MeterHouse();
        house.point(0, MeterHouse.FLAT, 3, 1, 0);
        house.point(0, MeterHouse.HOUSE, 3, 1, 0);
        house.point(0, MeterHouse.SHOP, 3, 1, 0);
        house.weather(1, 1, 0);
        house.weather(2, 2, 30);
        house.pass(3);
        // the pace 1000 makes the estimate of a day its weight
        int[][] weights = {{10, 10, 10}, {20, 10, 40}, {35, 5, 95}};
        for (int point = 0; point < 3; point++) {
            for (int day = 0; day < 3; day++) {
                Check.due("volume(" + point + ", " + day + ")", house.volume(point, day), weights[point][day]);
            }
        }
    }

    private static void weatherCounts() {
        MeterHouse house = new MeterHouse();
        Check.due("weather(0, 0, 10)", house.weather(0, 0, 10), 0);
        Check.due("weather(0, 0, 11)", house.weather(0, 0, 11), 1);
        Check.due("weather(0, 9, 11)", house.weather(0, 9, 11), 9);
        Check.due("weather(3, 5, 0)", house.weather(3, 5, 0), 3);
        Check.due("weather(0, 9, 30)", house.weather(0, 9, 30), 10);
        Check.due("weather(0, 9, 30) again", house.weather(0, 9, 30), 0);
        Check.due("weather(0, 999, 30)", house.weather(0, 999, 30), 990);
        Check.due("weather(999, 999, 29)", house.weather(999, 999, 29), 1);
        house.pass(60);
        Check.due("weather(60, 61, 10) of today", house.weather(60, 61, 10), 2);
    }

    private static void weatherRanges() {
        MeterHouse house = new MeterHouse();
        house.pass(7);
        Check.noSuch("weather of yesterday", () -> house.weather(6, 8, 5));
        Check.noSuch("weather from -1", () -> house.weather(-1, 8, 5));
        Check.noSuch("weather to 1000", () -> house.weather(8, 1000, 5));
        Check.noSuch("weather from 1000", () -> house.weather(1000, 1000, 5));
        Check.noSuch("weather to the day ahead of from", () -> house.weather(9, 8, 5));
        Check.noSuch("weather to the least", () -> house.weather(9, Integer.MIN_VALUE, 5));
        Check.outOfRange("degrees -1", () -> house.weather(7, 7, -1));
        Check.outOfRange("degrees 31", () -> house.weather(7, 7, 31));
        Check.noSuch("no day and no degrees", () -> house.weather(6, 6, 31));
        Check.due("what was refused told nothing", house.weather(7, 999, 10), 0);
    }

    private static void passes() {
        MeterHouse house = new MeterHouse();
        Check.due("pass(1)", house.pass(1), 1);
        Check.due("pass(60)", house.pass(60), 61);
        Check.outOfRange("pass(0)", () -> house.pass(0));
        Check.outOfRange("pass(61)", () -> house.pass(61));
        Check.outOfRange("pass(-1)", () -> house.pass(-1));
        Check.outOfRange("pass of the most", () -> house.pass(Integer.MAX_VALUE));
        Check.due("pass(2)", house.pass(2), 63);
    }

    private static void passesUpTo900() {
        MeterHouse house = new MeterHouse();
        house.point(2, MeterHouse.HOUSE, 6, 1, 0);
        for (int more = 0; more < 14; more++) {
            house.pass(60);
        }
        Check.due("pass(59) to 899", house.pass(59), 899);
        Check.notNow("pass(2) to 901", () -> house.pass(2));
        Check.notNow("pass(60) to 959", () -> house.pass(60));
        Check.outOfRange("pass(61) near the end", () -> house.pass(61));
        Check.due("pass(1) to 900", house.pass(1), 900);
        Check.notNow("pass(1) to 901", () -> house.pass(1));
        Check.outOfRange("pass(0) on 900", () -> house.pass(0));
        Check.due("read on 900", house.read(0, 18000), 18000);
        Check.due("volume(0, 899)", house.volume(0, 899), 20);
        Check.due("volumeAnew(0, 899)", house.volumeAnew(0, 899), 20);
        Check.due("of(0, 1)", house.of(0, 1), 900);
        Check.due("change on 900 to 999", house.change(0, 1, 999), 2);
        Check.due("weather from 900", house.weather(900, 999, 3), 100);
    }
}
