/** Terms, "Suppliers" and tariffs; Promises 8 to 11: each sentence at its edges. */
public final class SupplierEdgesTest {
    public static void main(String[] args) {
        daysOfChanges();
        oneAtATime();
        sameSupplier();
        objections();
        reverses();
        reversesOnce();
        reverseRefused();
        theOneBefore();
        lastDays();
        tariffDays();
        tariffBlocks();
        tariffsOfSuppliers();
        Check.end();
    }

    /** A FLAT of the supplier 0, so many days ago. */
    private static MeterHouse flat(int days) {
        MeterHouse house = new MeterHouse();
        house.point(0, MeterHouse.FLAT, 4, 1, 0);
        if (days > 0) {
            house.pass(days);
        }
        return house;
    }

    private static void dueSuppliers(MeterHouse house, int point, String suppliers) {
        for (int day = 0; day < suppliers.length(); day++) {
            String word = Check.word(house, point, day);
            Check.dueText("the supplier of " + day, word.substring(word.indexOf('s') + 1),
                    suppliers.substring(day, day + 1));
        }
    }

    private static void daysOfChanges() {
        Check.that("A change is told for a later day, tomorrow the first one", () -> {
            MeterHouse house = flat(3);
            Check.noSuch("today", () -> house.change(0, 1, 3));
            Check.noSuch("yesterday", () -> house.change(0, 1, 2));
            Check.due("tomorrow", house.change(0, 1, 4), 0);
            house.pass(1);
            Check.due("the supplier then", house.of(0, 3), 1);
        });
        Check.that("A change is told for a later day, 999 the last one", () -> {
            MeterHouse house = flat(3);
            Check.noSuch("1000", () -> house.change(0, 1, 1000));
            Check.due("999", house.change(0, 1, 999), 0);
            Check.due("the day for which it was told", house.object(0), 999);
        });
        Check.that("As that day begins the point is of the other supplier", () -> {
            MeterHouse house = flat(3);
            house.change(0, 1, 7);
            Check.due("as it is told", house.of(0, 3), 0);
            house.pass(3);
            Check.due("on the day ahead", house.of(0, 3), 0);
            house.pass(1);
            Check.due("on the day", house.of(0, 3), 1);
            house.pass(3);
            Check.due("behind the day", house.of(0, 3), 1);
            dueSuppliers(house, 0, "0000000111");
        });
        Check.that("Returns the supplier of today", () -> {
            for (int supplier = 0; supplier < 4; supplier++) {
                MeterHouse house = new MeterHouse();
                house.point(supplier, MeterHouse.FLAT, 4, 1, 0);
                Check.due("the first change", house.change(0, (supplier + 1) % 4, 1), supplier);
                house.pass(1);
                Check.due("the next one", house.change(0, supplier, 5), (supplier + 1) % 4);
            }
        });
        Check.that("a change is of its point alone", () -> {
            MeterHouse house = flat(0);
            house.point(3, MeterHouse.FLAT, 4, 1, 0);
            house.change(0, 1, 2);
            Check.due("a change of the other one", house.change(1, 1, 2), 3);
            Check.due("object to that", house.object(1), 2);
            house.pass(3);
            dueSuppliers(house, 0, "001");
            dueSuppliers(house, 1, "333");
            Check.notNow("reverse of the other one", () -> house.reverse(1));
        });
    }

    private static void oneAtATime() {
        Check.that("at most one at a time", () -> {
            MeterHouse house = flat(0);
            house.change(0, 1, 3);
            Check.notNow("another one, ahead of it", () -> house.change(0, 2, 2));
            Check.notNow("another one, of its day", () -> house.change(0, 2, 3));
            Check.notNow("another one, behind it", () -> house.change(0, 2, 4));
            Check.notNow("the same", () -> house.change(0, 1, 3));
            house.pass(2);
            Check.notNow("another one, on the day ahead", () -> house.change(0, 2, 4));
            house.pass(1);
            Check.due("another one, on its day", house.change(0, 2, 4), 1);
            house.pass(1);
            dueSuppliers(house, 0, "0001");
            Check.due("the supplier at last", house.of(0, 3), 2);
        });
        Check.that("another one, once it was objected to", () -> {
            MeterHouse house = flat(0);
            house.change(0, 1, 3);
            house.object(0);
            Check.due("another one", house.change(0, 2, 3), 0);
            house.pass(3);
            Check.due("the supplier then", house.of(0, 3), 2);
        });
    }

    private static void sameSupplier() {
        Check.that("it would have that supplier then", () -> {
            for (int supplier = 0; supplier < 4; supplier++) {
                MeterHouse house = new MeterHouse();
                house.point(supplier, MeterHouse.FLAT, 4, 1, 0);
                int own = supplier;
                Check.notNow("its own, tomorrow", () -> house.change(0, own, 1));
                Check.notNow("its own, on the last day", () -> house.change(0, own, 999));
                Check.due("none is told by that", house.change(0, (own + 1) % 4, 1), own);
            }
        });
        Check.that("it would have that supplier then, by a change that was made", () -> {
            MeterHouse house = flat(0);
            house.change(0, 1, 1);
            house.pass(1);
            Check.notNow("the one that it has now", () -> house.change(0, 1, 2));
            Check.due("the one that it had", house.change(0, 0, 2), 1);
        });
        Check.that("it would have that supplier then, by a change that was called wrong", () -> {
            MeterHouse house = flat(0);
            house.change(0, 1, 1);
            house.pass(1);
            house.reverse(0);
            Check.notNow("the one that it has again", () -> house.change(0, 0, 2));
            Check.due("the one that was wrong", house.change(0, 1, 2), 0);
        });
    }

    private static void objections() {
        Check.that("it can be objected to until then", () -> {
            for (int days = 0; days < 4; days++) {
                MeterHouse house = flat(0);
                house.change(0, 1, 4);
                if (days > 0) {
                    house.pass(days);
                }
                Check.due("ahead of its day", house.object(0), 4);
                house.pass(6);
                dueSuppliers(house, 0, "000000");
            }
            for (int days = 4; days < 6; days++) {
                MeterHouse house = flat(0);
                house.change(0, 1, 4);
                house.pass(days);
                Check.notNow("as its day has begun", () -> house.object(0));
                Check.due("the supplier then", house.of(0, 3), 1);
            }
        });
        Check.that("none is told", () -> {
            MeterHouse house = flat(0);
            Check.notNow("at first", () -> house.object(0));
            house.change(0, 1, 4);
            house.object(0);
            Check.notNow("behind an objection", () -> house.object(0));
            Check.notNow("a change that was refused", () -> house.change(0, 0, 4));
            Check.notNow("behind that", () -> house.object(0));
        });
        Check.that("what was objected to was not made", () -> {
            MeterHouse house = flat(0);
            house.change(0, 1, 4);
            house.object(0);
            house.pass(5);
            Check.notNow("reverse", () -> house.reverse(0));
        });
    }

    private static void reverses() {
        Check.that("Returns how many days, today with them, have another supplier by that", () -> {
            for (int days = 0; days < 3; days++) {
                MeterHouse house = flat(0);
                house.change(0, 1, 2);
                house.pass(2 + days);
                Check.due("so many days behind the change", house.reverse(0), days + 1);
                Check.due("the supplier today", house.of(0, 3), 0);
            }
            MeterHouse house = flat(0);
            house.change(0, 1, 1);
            for (int passed = 0; passed < 900; passed += 60) {
                house.pass(60);
            }
            Check.due("on the day 900", house.reverse(0), 900);
        });
        Check.that("the one before has the point, for all days since the change as well", () -> {
            MeterHouse house = flat(0);
            house.change(0, 1, 3);
            house.pass(6);
            dueSuppliers(house, 0, "000111");
            house.reverse(0);
            dueSuppliers(house, 0, "000000");
            house.pass(3);
            dueSuppliers(house, 0, "000000000");
            Check.due("the supplier today", house.of(0, 3), 0);
        });
        Check.that("the days ahead of the change are left", () -> {
            MeterHouse house = flat(0);
            house.change(0, 1, 2);
            house.pass(2);
            house.change(0, 2, 3);
            house.pass(2);
            Check.due("reverse", house.reverse(0), 2);
            dueSuppliers(house, 0, "0011");
        });
    }

    private static void reversesOnce() {
        Check.that("A change that was made can be called wrong, once", () -> {
            MeterHouse house = flat(0);
            house.change(0, 1, 2);
            house.pass(2);
            house.reverse(0);
            Check.notNow("again", () -> house.reverse(0));
            house.pass(5);
            Check.notNow("again, later", () -> house.reverse(0));
            Check.due("the supplier", house.of(0, 3), 0);
        });
        Check.that("if none was made since: the change ahead of that cannot be called wrong any more", () -> {
            MeterHouse house = flat(0);
            house.change(0, 1, 2);
            house.pass(2);
            house.change(0, 2, 4);
            house.pass(2);
            Check.due("the latest one", house.reverse(0), 1);
            Check.notNow("the one ahead of it", () -> house.reverse(0));
            house.pass(3);
            Check.notNow("the one ahead of it, later", () -> house.reverse(0));
            dueSuppliers(house, 0, "0011111");
        });
        Check.that("a change that is made behind one that was called wrong can be called wrong", () -> {
            MeterHouse house = flat(0);
            house.change(0, 1, 2);
            house.pass(2);
            house.reverse(0);
            house.change(0, 1, 3);
            house.pass(2);
            Check.due("the new one", house.reverse(0), 2);
            Check.notNow("again", () -> house.reverse(0));
            dueSuppliers(house, 0, "0000");
        });
        Check.that("a change that was called wrong stays so, behind an objection to another", () -> {
            MeterHouse house = flat(0);
            house.change(0, 1, 2);
            house.pass(2);
            house.reverse(0);
            house.change(0, 2, 9);
            house.object(0);
            Check.notNow("again", () -> house.reverse(0));
        });
    }

    private static void reverseRefused() {
        Check.that("none was made", () -> {
            MeterHouse house = flat(0);
            Check.notNow("at first", () -> house.reverse(0));
            house.change(0, 1, 2);
            house.pass(1);
            Check.notNow("on the day ahead of the change", () -> house.reverse(0));
            house.pass(1);
            Check.due("on its day", house.reverse(0), 1);
        });
        Check.that("a change is told", () -> {
            MeterHouse house = flat(0);
            house.change(0, 1, 2);
            house.pass(3);
            house.change(0, 2, 5);
            Check.notNow("as it is told", () -> house.reverse(0));
            house.pass(1);
            Check.notNow("on the day ahead of it", () -> house.reverse(0));
            dueSuppliers(house, 0, "0011");
            house.object(0);
            Check.due("behind an objection", house.reverse(0), 3);
            dueSuppliers(house, 0, "0000");
        });
        Check.that("a change that was told is the latest one, as it was made", () -> {
            MeterHouse house = flat(0);
            house.change(0, 1, 2);
            house.pass(3);
            house.change(0, 2, 5);
            house.pass(2);
            Check.due("on its day", house.reverse(0), 1);
            Check.due("the supplier then", house.of(0, 3), 1);
        });
    }

    private static void theOneBefore() {
        Check.that("the one before is not one that was called wrong", () -> {
            MeterHouse house = flat(0);
            house.change(0, 1, 2);
            house.pass(3);
            house.reverse(0);
            house.change(0, 2, 4);
            house.pass(2);
            Check.due("reverse", house.reverse(0), 2);
            Check.due("the supplier then", house.of(0, 3), 0);
            dueSuppliers(house, 0, "00000");
        });
        Check.that("the one before is the one ahead of the change, not the first one", () -> {
            MeterHouse house = flat(0);
            for (int supplier = 1; supplier < 4; supplier++) {
                house.change(0, supplier, supplier);
                house.pass(1);
            }
            Check.due("reverse", house.reverse(0), 1);
            Check.due("the supplier then", house.of(0, 3), 2);
            dueSuppliers(house, 0, "012");
        });
    }

    private static void lastDays() {
        Check.that("a change for the day 900 is made, one for 901 is not", () -> {
            for (int day = 900; day <= 901; day++) {
                MeterHouse house = flat(0);
                house.change(0, 1, day);
                for (int passed = 0; passed < 900; passed += 60) {
                    house.pass(60);
                }
                Check.due("the supplier on 900", house.of(0, 3), day == 900 ? 1 : 0);
                Check.dueText("object", Check.answer(() -> house.object(0)),
                        day == 900 ? "throws.IllegalStateException" : "901");
                Check.dueText("reverse", Check.answer(() -> house.reverse(0)),
                        day == 900 ? "1" : "throws.IllegalStateException");
            }
        });
    }

    private static void tariffDays() {
        Check.that("all 0 at first", () -> {
            for (int supplier = 0; supplier < 4; supplier++) {
                MeterHouse house = new MeterHouse();
                house.point(supplier, MeterHouse.SHOP, 4, 1, 0);
                house.pass(60);
                Check.due("the bill", house.bill(0), 0);
                Check.due("the income", house.income(supplier), 0);
            }
        });
        Check.that("told from today on: yesterday by the one before, today by this one", () -> {
            MeterHouse house = flat(0);
            house.tariff(0, 2, 1000, 0);
            house.pass(3);
            house.tariff(0, 5, 1000, 0);
            Check.due("the bill of the days ahead", house.bill(0), 3 * 20);
            house.pass(1);
            Check.due("the bill of that day", house.bill(0), 50);
            house.pass(2);
            Check.due("the bill of the days behind it", house.bill(0), 2 * 50);
        });
        Check.that("the latest one told, from that day", () -> {
            MeterHouse house = flat(1);
            house.tariff(0, 2, 1000, 0);
            house.tariff(0, 7, 3, 4);
            house.tariff(0, 5, 1000, 0);
            house.pass(2);
            Check.due("the bill", house.bill(0), 2 * 50);
        });
        Check.that("the latest one told, from one ahead, however long", () -> {
            MeterHouse house = flat(0);
            house.tariff(0, 2, 1000, 0);
            for (int passed = 0; passed < 900; passed += 60) {
                house.pass(60);
                house.bill(0);
            }
            Check.due("what it owes for 900 days", house.account(0), 900 * 20);
        });
        Check.that("a tariff that is told back to 0", () -> {
            MeterHouse house = flat(0);
            house.tariff(0, 2, 1000, 3);
            house.pass(1);
            house.tariff(0, 0, 0, 0);
            house.pass(5);
            Check.due("the bill", house.bill(0), 20);
        });
        Check.that("a tariff on the day 899 counts for it", () -> {
            MeterHouse house = flat(59);
            for (int passed = 59; passed < 899; passed += 60) {
                house.pass(60);
            }
            house.tariff(0, 2, 1000, 3);
            Check.due("the bill of the days ahead", house.bill(0), 0);
            house.pass(1);
            house.tariff(0, 9, 1000, 9);
            Check.due("the bill of 899", house.bill(0), 20);
        });
    }

    private static void dueCost(int units, int first, int block, int rest, int cents) {
        MeterHouse house = flat(0);
        house.tariff(0, first, block, rest);
        house.pass(1);
        house.exchange(0, units, 3, 1);
        Check.due(units + " units by " + first + ", " + block + ", " + rest, house.bill(0), cents);
    }

    private static void tariffBlocks() {
        Check.that("cents for a unit of a block, and cents for each unit above that", () -> {
            dueCost(9, 3, 10, 50, 27);
            dueCost(10, 3, 10, 50, 30);
            dueCost(11, 3, 10, 50, 80);
            dueCost(12, 3, 10, 50, 130);
        });
        Check.that("no units cost nothing", () -> dueCost(0, 100, 1000, 100, 0));
        Check.that("a block of 0 units", () -> {
            dueCost(1, 100, 0, 3, 3);
            dueCost(2, 100, 0, 3, 6);
        });
        Check.that("a block of one unit", () -> {
            dueCost(1, 100, 1, 3, 100);
            dueCost(2, 100, 1, 3, 103);
        });
        Check.that("a block of 1000 units", () -> {
            dueCost(999, 2, 1000, 50, 1998);
            dueCost(1000, 2, 1000, 50, 2000);
            dueCost(1001, 2, 1000, 50, 2050);
        });
        Check.that("the block is of each day, not of all", () -> {
            MeterHouse house = flat(0);
            house.tariff(0, 1, 10, 100);
            house.pass(3);
            house.exchange(0, 31, 3, 1);
            Check.due("11, 10 and 10 units", house.bill(0), 110 + 10 + 10);
        });
        Check.that("the block is of each point, not of all of a supplier", () -> {
            MeterHouse house = flat(0);
            house.point(0, MeterHouse.FLAT, 4, 1, 0);
            house.tariff(0, 1, 10, 100);
            house.pass(1);
            Check.due("10 units", house.bill(0), 10);
            Check.due("10 other units", house.bill(1), 10);
        });
    }

    private static void tariffsOfSuppliers() {
        Check.that("a tariff is of its supplier alone", () -> {
            for (int supplier = 0; supplier < 4; supplier++) {
                MeterHouse house = new MeterHouse();
                for (int point = 0; point < 4; point++) {
                    house.point(point, MeterHouse.FLAT, 4, 1, 0);
                }
                house.tariff(supplier, 2, 1000, 0);
                house.pass(2);
                for (int point = 0; point < 4; point++) {
                    Check.due("the bill of " + point, house.bill(point), point == supplier ? 40 : 0);
                }
            }
        });
        Check.that("by the tariff that its supplier has for that day, as the supplier is by now", () -> {
            MeterHouse house = flat(0);
            house.tariff(0, 2, 1000, 0);
            house.tariff(1, 9, 1000, 0);
            house.change(0, 1, 2);
            house.pass(3);
            house.tariff(0, 4, 1000, 0);
            house.pass(1);
            house.reverse(0);
            Check.due("three days for 2 cents, one for 4", house.bill(0), 60 + 40);
        });
    }
}
