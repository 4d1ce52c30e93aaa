/** Promises 12 to 15: bill, credit, account, income. */
public final class BillsTest {
    public static void main(String[] args) {
        billsOnce();
        billsPutRight();
        nothingMoreBehindTheLimit();
        lessForAnyDay();
        takesBackFromAnother();
        takesBackHoweverLongAgo();
        takesBackWithoutABillInBetween();
        sharedIncome();
        largeBills();
        credits();
        creditRanges();
        codesCountOnce();
        noSuchPoints();
        Check.end();
    }

    private static MeterHouse flat(int supplier) {
        MeterHouse house = new MeterHouse();
        house.point(supplier, MeterHouse.FLAT, 4, 1, 0);
        return house;
    }

    private static void billsOnce() {
        MeterHouse house = flat(2);
        house.tariff(2, 4, 6, 9);
        Check.due("bill on the first day", house.bill(0), 0);
        house.pass(3);
        Check.due("income ahead of the bill", house.income(2), 0);
        Check.due("bill of three days", house.bill(0), 3 * (24 + 36));
        Check.due("bill again", house.bill(0), 0);
        Check.due("account", house.account(0), 180);
        Check.due("income", house.income(2), 180);
        Check.due("income of another", house.income(0), 0);
        house.pass(1);
        Check.due("bill of one day more", house.bill(0), 60);
        Check.due("account then", house.account(0), 240);
    }

    private static void billsPutRight() {
        MeterHouse house = flat(1);
        house.tariff(1, 10, 1000, 0);
        house.pass(10);
        Check.due("bill of estimates", house.bill(0), 1000);
        house.read(0, 55);
        Check.due("bill of less", house.bill(0), -450);
        Check.due("account of less", house.account(0), 550);
        Check.due("income of less", house.income(1), 550);
        house.pass(10);
        Check.due("bill of the new pace", house.bill(0), 500);
        house.read(0, 255);
        Check.due("bill of more", house.bill(0), 1500);
        Check.due("account of more", house.account(0), 2550);
    }

    private static void nothingMoreBehindTheLimit() {
        MeterHouse house = flat(0);
        house.tariff(0, 1, 1000, 0);
        house.pass(60);
        house.pass(40);
        Check.due("bill of 100 days", house.bill(0), 1000);
        MeterHouse later = flat(0);
        later.tariff(0, 1, 1000, 0);
        later.pass(60);
        later.pass(41);
        Check.due("bill of 101 days", later.bill(0), 1000);
        MeterHouse more = flat(0);
        more.tariff(0, 1, 1000, 0);
        more.pass(60);
        more.pass(40);
        more.bill(0);
        more.pass(2);
        Check.due("20 units a day", more.read(0, 2040), 2040);
        // the days 0 and 1 are 102 and 101 days ahead
        Check.due("bill of more", more.bill(0), 98 * 10 + 2 * 20);
        Check.due("account", more.account(0), 1000 + 980 + 40);
        Check.due("income", more.income(0), 2020);
    }

    private static void lessForAnyDay() {
        MeterHouse house = flat(0);
        house.tariff(0, 1, 1000, 0);
        house.pass(50);
        house.bill(0);
        house.pass(60);
        house.pass(60);
        Check.due("bill of 100 days more", house.bill(0), 1000);
        house.read(0, 170);
        // the days 50 to 69 were never billed: 150 days were, for 10 each
        Check.due("bill of a tenth", house.bill(0), -9 * 150);
        Check.due("account", house.account(0), 150);
        Check.due("income", house.income(0), 150);
    }

    private static void takesBackFromAnother() {
        MeterHouse house = flat(0);
        house.tariff(0, 3, 1000, 0);
        house.tariff(1, 5, 1000, 0);
        house.change(0, 1, 4);
        house.pass(10);
        Check.due("bill of both", house.bill(0), 4 * 30 + 6 * 50);
        Check.due("income of 0", house.income(0), 120);
        Check.due("income of 1", house.income(1), 300);
        house.reverse(0);
        Check.due("account ahead of the bill", house.account(0), 420);
        Check.due("bill behind the reverse", house.bill(0), -300 + 180);
        Check.due("income of 0 then", house.income(0), 300);
        Check.due("income of 1 then", house.income(1), 0);
        Check.due("account then", house.account(0), 300);
        Check.due("bill again", house.bill(0), 0);
    }

    private static void takesBackHoweverLongAgo() {
        MeterHouse house = flat(0);
        house.tariff(0, 3, 1000, 0);
        house.tariff(1, 5, 1000, 0);
        house.change(0, 1, 10);
        house.pass(60);
        Check.due("bill of 60 days", house.bill(0), 10 * 30 + 50 * 50);
        house.pass(60);
        house.reverse(0);
        // 50 days are taken back; of these 20 to 59 may be billed, and 60 to 119
        Check.due("bill behind the limit", house.bill(0), -2500 + 100 * 30);
        Check.due("income of 0", house.income(0), 300 + 3000);
        Check.due("income of 1", house.income(1), 0);
        Check.due("account", house.account(0), 3300);
        house.exchange(0, 0, 4, 1);
        Check.due("bill of no use", house.bill(0), -3300);
        Check.due("income of no use", house.income(0), 0);
    }

    private static void takesBackWithoutABillInBetween() {
        MeterHouse house = flat(0);
        house.tariff(0, 3, 1000, 0);
        house.tariff(1, 5, 1000, 0);
        house.change(0, 1, 4);
        house.pass(10);
        house.reverse(0);
        Check.due("bill behind a reverse alone", house.bill(0), 300);
        Check.due("income of 1", house.income(1), 0);
        house.change(0, 2, 12);
        house.pass(5);
        Check.due("bill with a supplier for nothing", house.bill(0), 60);
        Check.due("income of 2", house.income(2), 0);
        house.reverse(0);
        Check.due("bill of what was for nothing", house.bill(0), 90);
        Check.due("income of 0", house.income(0), 450);
    }

    private static void sharedIncome() {
        MeterHouse house = flat(3);
        house.point(3, MeterHouse.SHOP, 4, 1, 0);
        house.tariff(3, 2, 1000, 0);
        house.pass(2);
        Check.due("bill of the first", house.bill(0), 40);
        Check.due("bill of the second", house.bill(1), 140);
        Check.due("income of both", house.income(3), 180);
        Check.due("account of the first", house.account(0), 40);
        Check.due("account of the second", house.account(1), 140);
    }

    private static void largeBills() {
        MeterHouse house = new MeterHouse();
        house.point(0, MeterHouse.SHOP, 6, 10, 1);
        house.tariff(0, 100, 0, 100);
        house.weather(0, 0, 0);
        house.weather(1, 999, 30);
        house.pass(1);
        house.exchange(0, 0, 6, 10);
        house.pass(60);
        long due = 9999990L * 100 + 60 * 189999810L * 100;
        Check.due("bill above an int", house.bill(0), due);
        Check.due("account above an int", house.account(0), due);
        Check.due("income above an int", house.income(0), due);
        house.exchange(0, 0, 6, 10);
        Check.due("bill of all back to the first day", house.bill(0), -60 * 189999810L * 100);
    }

    private static void credits() {
        MeterHouse house = flat(0);
        Check.due("the number 1", house.credit(0, 98), 1);
        Check.due("account below 0", house.account(0), -1);
        Check.due("the number 96", house.credit(0, 97 * 96 + 96), 96);
        Check.due("the number 97 with the rest 0", house.credit(0, 97 * 97), 97);
        Check.due("the number 999", house.credit(0, 97 * 999 + 29), 999);
        Check.due("the number 1000", house.credit(0, 97 * 1000 + 30), 0);
        Check.due("the number 1234", house.credit(0, 97 * 1234 + 70), 234);
        // 22139005 has the rest 16 by 97
        Check.due("a great code", house.credit(0, 97 * 22139005 + 16), 5);
        Check.due("the number 0", house.credit(0, 0), 0);
        Check.due("account", house.account(0), -(1 + 96 + 97 + 999 + 234 + 5));
        Check.due("income has no credit", house.income(0), 0);
        Check.due("bill has no credit", house.bill(0), 0);
    }

    private static void creditRanges() {
        MeterHouse house = flat(0);
        Check.noSuch("credit of no point", () -> house.credit(1, 98));
        Check.noSuch("credit of no point, and no code", () -> house.credit(-1, -1));
        Check.outOfRange("code -1", () -> house.credit(0, -1));
        Check.outOfRange("code -98", () -> house.credit(0, -98));
        Check.outOfRange("the least code", () -> house.credit(0, Integer.MIN_VALUE));
        Check.outOfRange("the most", () -> house.credit(0, Integer.MAX_VALUE));
        Check.outOfRange("code 1", () -> house.credit(0, 1));
        Check.outOfRange("code 97", () -> house.credit(0, 97));
        Check.outOfRange("code 99", () -> house.credit(0, 99));
        Check.outOfRange("the number 97 with the rest 1", () -> house.credit(0, 97 * 97 + 1));
        Check.due("account", house.account(0), 0);
        Check.due("a code that was refused without a point", house.credit(0, 98), 1);
    }

    private static void codesCountOnce() {
        MeterHouse house = flat(0);
        house.point(0, MeterHouse.FLAT, 3, 1, 0);
        Check.due("code 196", house.credit(0, 196), 2);
        Check.notNow("code 196 again", () -> house.credit(0, 196));
        Check.notNow("code 196 of another point", () -> house.credit(1, 196));
        Check.noSuch("code 196 of no point", () -> house.credit(2, 196));
        Check.due("code 0", house.credit(1, 0), 0);
        Check.notNow("code 0 again", () -> house.credit(0, 0));
        for (int number = 3; number < 203; number++) {
            house.credit(1, 97 * number + number % 97);
        }
        for (int number = 3; number < 203; number++) {
            int code = 97 * number + number % 97;
            Check.notNow("code " + code + " again", () -> house.credit(0, code));
        }
        Check.due("account of the first", house.account(0), -2);
        Check.due("account of the second", house.account(1), -(3 + 202) * 100);
    }

    private static void noSuchPoints() {
        MeterHouse house = flat(0);
        Check.noSuch("bill(1)", () -> house.bill(1));
        Check.noSuch("bill(-1)", () -> house.bill(-1));
        Check.noSuch("bill(8)", () -> house.bill(8));
        Check.noSuch("account(1)", () -> house.account(1));
        Check.noSuch("account(-1)", () -> house.account(-1));
        Check.noSuch("income(4)", () -> house.income(4));
        Check.noSuch("income(-1)", () -> house.income(-1));
    }
}
