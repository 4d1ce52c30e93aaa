/** Promises 8 to 11: change, object, reverse, tariff. */
public final class SuppliersTest {
    public static void main(String[] args) {
        changesAsTheDayBegins();
        changeRanges();
        changeRefused();
        objects();
        reversesOnce();
        reversesTheLatestAlone();
        reversesToTheDayAhead();
        reverseRefused();
        changesBehindAReverse();
        tariffBlocks();
        tariffsByDays();
        tariffRanges();
        Check.end();
    }

    /** A house with a FLAT of the supplier 0 and a HOUSE of the supplier 1. */
    private static MeterHouse house() {
        MeterHouse house = new MeterHouse();
        house.point(0, MeterHouse.FLAT, 4, 1, 0);
        house.point(1, MeterHouse.HOUSE, 4, 1, 0);
        return house;
    }

    private static void dueSuppliers(MeterHouse house, int point, int from, String suppliers) {
        for (int place = 0; place < suppliers.length(); place++) {
            String word = Check.word(house, point, from + place);
            String supplier = word.substring(word.indexOf('s') + 1);
            Check.dueText("supplier of day " + (from + place), supplier, suppliers.substring(place, place + 1));
        }
    }

    private static void changesAsTheDayBegins() {
        MeterHouse house = house();
        Check.due("change(0, 3, 2)", house.change(0, 3, 2), 0);
        Check.due("supplier today", house.of(0, 3), 0);
        house.pass(1);
        Check.due("supplier on the day ahead", house.of(0, 3), 0);
        house.pass(1);
        Check.due("supplier as the day begins", house.of(0, 3), 3);
        Check.due("supplier of the other point", house.of(1, 3), 1);
        Check.due("change(0, 2, 5)", house.change(0, 2, 5), 3);
        house.pass(8);
        Check.due("supplier behind the day", house.of(0, 3), 2);
        dueSuppliers(house, 0, 0, "0033322222");
        dueSuppliers(house, 1, 0, "1111111111");
    }

    private static void changeRanges() {
        MeterHouse house = house();
        house.pass(5);
        Check.noSuch("change of no point", () -> house.change(2, 1, 6));
        Check.noSuch("change of the point -1", () -> house.change(-1, 1, 6));
        Check.noSuch("change to the supplier 4", () -> house.change(0, 4, 6));
        Check.noSuch("change to the supplier -1", () -> house.change(0, -1, 6));
        Check.noSuch("change for today", () -> house.change(0, 1, 5));
        Check.noSuch("change for the day 1000", () -> house.change(0, 1, 1000));
        Check.noSuch("change for the day -1", () -> house.change(0, 1, -1));
        Check.due("change for the day 999", house.change(0, 1, 999), 0);
        Check.due("change for tomorrow", house.change(1, 2, 6), 1);
        house.pass(1);
        Check.due("supplier tomorrow", house.of(1, 3), 2);
        Check.due("supplier ahead of the day 999", house.of(0, 3), 0);
        Check.notNow("reverse ahead of the day 999", () -> house.reverse(0));
        Check.due("object to the day 999", house.object(0), 999);
    }

    private static void changeRefused() {
        MeterHouse house = house();
        Check.notNow("change to its own supplier", () -> house.change(0, 0, 3));
        house.change(0, 1, 3);
        Check.notNow("a second change", () -> house.change(0, 2, 4));
        Check.notNow("the same change again", () -> house.change(0, 1, 3));
        Check.noSuch("a second change for today", () -> house.change(0, 2, 0));
        Check.noSuch("a second change to no supplier", () -> house.change(0, 4, 4));
        house.pass(3);
        Check.notNow("change to its new supplier", () -> house.change(0, 1, 6));
        Check.due("change back", house.change(0, 0, 6), 1);
        house.pass(3);
        dueSuppliers(house, 0, 0, "000111");
    }

    private static void objects() {
        MeterHouse house = house();
        Check.notNow("object to nothing", () -> house.object(0));
        Check.noSuch("object of no point", () -> house.object(2));
        Check.noSuch("object of the point -1", () -> house.object(-1));
        house.change(0, 2, 4);
        house.pass(3);
        Check.due("object on the day ahead", house.object(0), 4);
        Check.notNow("object again", () -> house.object(0));
        house.pass(2);
        Check.due("supplier behind the day", house.of(0, 3), 0);
        Check.notNow("reverse what was objected to", () -> house.reverse(0));
        house.change(0, 2, 6);
        house.pass(1);
        Check.notNow("object as the day has begun", () -> house.object(0));
        Check.due("supplier then", house.of(0, 3), 2);
    }

    private static void reversesOnce() {
        MeterHouse house = house();
        house.change(0, 2, 3);
        house.pass(3);
        Check.due("reverse on the day itself", house.reverse(0), 1);
        Check.due("supplier then", house.of(0, 3), 0);
        Check.notNow("reverse again", () -> house.reverse(0));
        house.change(1, 0, 5);
        house.pass(7);
        Check.due("reverse days behind", house.reverse(1), 6);
        dueSuppliers(house, 0, 0, "0000000000");
        dueSuppliers(house, 1, 0, "1111111111");
        house.pass(5);
        Check.due("supplier from then on", house.of(1, 3), 1);
        Check.notNow("reverse the second again", () -> house.reverse(1));
    }

    private static void reversesTheLatestAlone() {
        MeterHouse house = house();
        house.change(0, 1, 2);
        house.pass(3);
        house.change(0, 2, 5);
        house.pass(4);
        Check.due("reverse the second", house.reverse(0), 3);
        Check.notNow("reverse the first", () -> house.reverse(0));
        dueSuppliers(house, 0, 0, "0011111");
        Check.due("supplier then", house.of(0, 3), 1);
    }

    private static void reversesToTheDayAhead() {
        MeterHouse house = house();
        house.change(0, 1, 2);
        house.pass(2);
        house.change(0, 2, 3);
        house.pass(2);
        Check.due("reverse a change behind a change", house.reverse(0), 2);
        dueSuppliers(house, 0, 0, "0011");
        Check.due("supplier then", house.of(0, 3), 1);
    }

    private static void reverseRefused() {
        MeterHouse house = house();
        Check.noSuch("reverse of no point", () -> house.reverse(2));
        Check.noSuch("reverse of the point -1", () -> house.reverse(-1));
        Check.notNow("reverse without a change", () -> house.reverse(0));
        house.change(0, 1, 2);
        Check.notNow("reverse of a change that is told", () -> house.reverse(0));
        house.pass(2);
        house.change(0, 2, 9);
        Check.notNow("reverse as another is told", () -> house.reverse(0));
        house.object(0);
        Check.due("reverse behind the objection", house.reverse(0), 1);
    }

    private static void changesBehindAReverse() {
        MeterHouse house = house();
        house.change(0, 1, 2);
        house.pass(4);
        house.reverse(0);
        Check.notNow("change to the supplier that has it again", () -> house.change(0, 0, 6));
        Check.due("change to the wrong one, told anew", house.change(0, 1, 6), 0);
        house.pass(4);
        dueSuppliers(house, 0, 0, "00000011");
        Check.due("reverse the new one", house.reverse(0), 3);
        dueSuppliers(house, 0, 0, "00000000");
        Check.notNow("reverse once more", () -> house.reverse(0));
    }

    private static void tariffBlocks() {
        // a FLAT has 10 units a day at first
        int[][] tariffs = {{7, 10, 3, 70}, {7, 9, 3, 66}, {7, 11, 3, 70}, {7, 0, 3, 30},
            {100, 1000, 0, 1000}, {0, 0, 100, 1000}, {0, 4, 100, 600}, {0, 0, 0, 0}};
        for (int[] told : tariffs) {
            MeterHouse house = house();
            house.tariff(0, told[0], told[1], told[2]);
            house.pass(1);
            Check.due("bill of a day by " + told[0] + ", " + told[1] + ", " + told[2], house.bill(0), told[3]);
        }
    }

    private static void tariffsByDays() {
        MeterHouse house = house();
        house.pass(2);
        house.tariff(0, 1, 1000, 0);
        house.tariff(0, 2, 1000, 0);
        house.tariff(1, 50, 1000, 0);
        house.pass(3);
        house.tariff(0, 5, 1000, 0);
        house.pass(1);
        // two days for nothing, three for 2 cents a unit, one for 5
        Check.due("bill over three tariffs", house.bill(0), 60 + 50);
        Check.due("bill by the other supplier", house.bill(1), 4 * 20 * 50);
        house.tariff(0, 100, 1000, 100);
        Check.due("a tariff told later is of no day ahead", house.bill(0), 0);
    }

    private static void tariffRanges() {
        MeterHouse house = house();
        house.tariff(3, 0, 0, 0);
        house.tariff(0, 100, 1000, 100);
        Check.noSuch("tariff of the supplier 4", () -> house.tariff(4, 1, 1, 1));
        Check.noSuch("tariff of the supplier -1", () -> house.tariff(-1, 101, 1, 1));
        Check.outOfRange("first -1", () -> house.tariff(0, -1, 1, 1));
        Check.outOfRange("first 101", () -> house.tariff(0, 101, 1, 1));
        Check.outOfRange("block -1", () -> house.tariff(0, 1, -1, 1));
        Check.outOfRange("block 1001", () -> house.tariff(0, 1, 1001, 1));
        Check.outOfRange("rest -1", () -> house.tariff(0, 1, 1, -1));
        Check.outOfRange("rest 101", () -> house.tariff(0, 1, 1, 101));
        house.pass(1);
        Check.due("what was refused told nothing", house.bill(0), 1000);
    }
}
