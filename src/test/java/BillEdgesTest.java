/** Terms, bills and credit; Promises 12 to 15: each sentence at its edges. */
public final class BillEdgesTest {
    public static void main(String[] args) {
        daysOfABill();
        differences();
        inAndOutOf100Days();
        lessForAnyDay();
        takenBack();
        takenBackBehindTheLimit();
        incomes();
        accounts();
        codes();
        cents();
        codesTwice();
        Check.end();
    }

    /** A FLAT of the supplier 0 for 2 cents a unit; the supplier 1 has 5 cents, the others nothing. */
    private static MeterHouse flat(int days) {
        MeterHouse house = new MeterHouse();
        house.point(0, MeterHouse.FLAT, 5, 1, 0);
        house.tariff(0, 2, 1000, 2);
        house.tariff(1, 5, 1000, 5);
        pass(house, days);
        return house;
    }

    private static void pass(MeterHouse house, int days) {
        for (int left = days; left > 0; left -= Math.min(60, left)) {
            house.pass(Math.min(60, left));
        }
    }

    private static void dueCents(MeterHouse house, long account, long income0, long income1) {
        Check.due("the account", house.account(0), account);
        Check.due("the income of 0", house.income(0), income0);
        Check.due("the income of 1", house.income(1), income1);
    }

    private static void daysOfABill() {
        Check.that("A bill of a point looks at all days ahead of today", () -> {
            MeterHouse house = flat(0);
            Check.due("on the first day", house.bill(0), 0);
            house.pass(1);
            Check.due("of the first day", house.bill(0), 20);
            house.pass(2);
            Check.due("of two days more", house.bill(0), 40);
            dueCents(house, 60, 60, 0);
        });
        Check.that("from the first day of the point", () -> {
            MeterHouse house = flat(3);
            house.point(1, MeterHouse.FLAT, 4, 1, 0);
            Check.due("on its first day", house.bill(1), 0);
            house.pass(1);
            Check.due("of its first day", house.bill(1), 50);
            Check.due("of the other one", house.bill(0), 80);
        });
        Check.that("a bill of one point bills no other", () -> {
            MeterHouse house = flat(0);
            house.point(0, MeterHouse.FLAT, 4, 1, 0);
            house.pass(3);
            house.bill(1);
            Check.due("the account of the other", house.account(0), 0);
            Check.due("the income", house.income(0), 60);
        });
        Check.that("on the day 900", () -> {
            MeterHouse house = flat(840);
            house.bill(0);
            house.pass(60);
            Check.due("of 60 days", house.bill(0), 60 * 20);
        });
    }

    private static void differences() {
        Check.that("what the day costs, less what its supplier has billed for it: nothing", () -> {
            MeterHouse house = flat(5);
            house.bill(0);
            Check.due("again", house.bill(0), 0);
            house.read(0, 50);
            Check.due("behind a reading of the same units", house.bill(0), 0);
            dueCents(house, 100, 100, 0);
        });
        Check.that("what the day costs, less what its supplier has billed for it: more by one unit", () -> {
            MeterHouse house = flat(5);
            house.bill(0);
            house.read(0, 51);
            Check.due("more", house.bill(0), 2);
            Check.due("again", house.bill(0), 0);
            dueCents(house, 102, 102, 0);
        });
        Check.that("what the day costs, less what its supplier has billed for it: less by one unit", () -> {
            MeterHouse house = flat(5);
            house.bill(0);
            house.read(0, 49);
            Check.due("less", house.bill(0), -2);
            Check.due("again", house.bill(0), 0);
            dueCents(house, 98, 98, 0);
        });
        Check.that("for each day: one less, another more", () -> {
            MeterHouse house = flat(0);
            house.tariff(0, 1, 10, 50);
            house.pass(1);
            house.read(0, 5);
            house.pass(1);
            Check.due("5 and 5 units", house.bill(0), 10);
            house.read(0, 16);
            Check.due("5 and 11 units", house.bill(0), 50 + 5);
        });
        Check.that("to nothing at all", () -> {
            MeterHouse house = flat(5);
            house.bill(0);
            house.read(0, 0);
            Check.due("all of it", house.bill(0), -100);
            dueCents(house, 0, 0, 0);
        });
    }

    /** A day that was never billed, so many days ago, with the days behind it billed already. */
    private static long moreForADay(int daysAgo) {
        MeterHouse house = new MeterHouse();
        house.point(0, MeterHouse.FLAT, 5, 1, 0);
        house.tariff(0, 2, 1000, 2);
        house.pass(1);
        house.tariff(0, 0, 0, 0);
        pass(house, daysAgo - 1);
        return house.bill(0);
    }

    /** One unit more for the day 0, which was billed before, so many days ago. */
    private static long moreThanBilled(int daysAgo) {
        MeterHouse house = flat(1);
        house.bill(0);
        house.tariff(0, 0, 0, 0);
        house.read(0, 5000);
        pass(house, daysAgo - 1);
        house.confirm(0);
        return house.bill(0);
    }

    private static void inAndOutOf100Days() {
        Check.that("nothing more for a day that is more than 100 days ahead of today, as it was not billed", () -> {
            Check.due("99 days", moreForADay(99), 20);
            Check.due("100 days", moreForADay(100), 20);
            Check.due("101 days", moreForADay(101), 0);
            Check.due("102 days", moreForADay(102), 0);
            Check.due("899 days", moreForADay(899), 0);
        });
        Check.that("nothing more for a day that is more than 100 days ahead of today, as it was billed", () -> {
            Check.due("99 days", moreThanBilled(99), 9980);
            Check.due("100 days", moreThanBilled(100), 9980);
            Check.due("101 days", moreThanBilled(101), 0);
            Check.due("102 days", moreThanBilled(102), 0);
        });
        Check.that("so it is of many days", () -> {
            Check.due("of 100 days", flat(100).bill(0), 100 * 20);
            Check.due("of 101 days", flat(101).bill(0), 100 * 20);
            Check.due("of 900 days", flat(900).bill(0), 100 * 20);
        });
        Check.that("not one cent more for a day that is more than 100 days ahead of today", () -> {
            for (int days = 100; days <= 101; days++) {
                MeterHouse house = new MeterHouse();
                house.point(2, MeterHouse.FLAT, 5, 1, 0);
                house.tariff(2, 1, 1000, 0);
                house.pass(1);
                house.tariff(2, 0, 0, 0);
                house.exchange(0, 1, 5, 1);
                pass(house, days - 1);
                Check.due("one cent, " + days + " days ago", house.bill(0), days == 100 ? 1 : 0);
            }
        });
        Check.that("what is nothing more stays as it was billed", () -> {
            MeterHouse house = flat(1);
            house.bill(0);
            house.read(0, 5000);
            pass(house, 100);
            house.confirm(0);
            house.tariff(0, 0, 0, 0);
            house.bill(0);
            Check.due("the day 0 at 20, 100 days at 1000 each", house.account(0), 20 + 100 * 5000 * 2);
            Check.due("again", house.bill(0), 0);
        });
    }

    /** The day 0 was billed for 10 units; a reading so many days later gives each day the same units. */
    private static void dueLess(int daysAgo, int units, long due) {
        MeterHouse house = flat(1);
        house.bill(0);
        house.tariff(0, 0, 0, 0);
        pass(house, daysAgo - 1);
        house.exchange(0, units * daysAgo, 5, 1);
        Check.due("the day 0, " + daysAgo + " days ago, " + units + " units", house.bill(0), due);
        dueCents(house, 20 + due, 20 + due, 0);
    }

    private static void lessForAnyDay() {
        Check.that("what is less is given back for any day", () -> {
            for (int daysAgo : new int[] {1, 99, 100, 101, 102, 899}) {
                dueLess(daysAgo, 0, -20);
            }
        });
        Check.that("what is less by one unit, what is the same, what is more, in and out of 100 days", () -> {
            for (int daysAgo : new int[] {100, 101}) {
                dueLess(daysAgo, 9, -2);
                dueLess(daysAgo, 10, 0);
                dueLess(daysAgo, 11, daysAgo == 100 ? 2 : 0);
            }
        });
        Check.that("a day that was given back behind the limit is billed no more", () -> {
            MeterHouse house = flat(50);
            house.bill(0);
            pass(house, 101);
            house.exchange(0, 0, 5, 1);
            Check.due("all of the 50 days", house.bill(0), -50 * 20);
            dueCents(house, 0, 0, 0);
        });
    }

    private static void takenBack() {
        Check.that("what was billed by another supplier than that of the day is taken back", () -> {
            MeterHouse house = flat(0);
            house.change(0, 1, 2);
            house.pass(4);
            Check.due("the first bill", house.bill(0), 2 * 20 + 2 * 50);
            dueCents(house, 140, 40, 100);
            house.reverse(0);
            dueCents(house, 140, 40, 100);
            Check.due("behind the reverse", house.bill(0), 2 * 20 - 2 * 50);
            dueCents(house, 80, 80, 0);
            Check.due("again", house.bill(0), 0);
        });
        Check.that("a day that was not billed is not taken back", () -> {
            MeterHouse house = flat(0);
            house.change(0, 1, 2);
            house.pass(3);
            house.bill(0);
            house.pass(1);
            house.reverse(0);
            Check.due("one day was billed, one was not", house.bill(0), 2 * 20 - 50);
            dueCents(house, 80, 80, 0);
        });
        Check.that("taken back from one that billed nothing", () -> {
            MeterHouse house = flat(0);
            house.change(0, 2, 2);
            house.pass(4);
            Check.due("the first bill", house.bill(0), 40);
            house.reverse(0);
            Check.due("behind the reverse", house.bill(0), 40);
            dueCents(house, 80, 80, 0);
            Check.due("the income of 2", house.income(2), 0);
        });
        Check.that("taken back for one that bills nothing", () -> {
            MeterHouse house = new MeterHouse();
            house.point(2, MeterHouse.FLAT, 5, 1, 0);
            house.tariff(1, 5, 1000, 5);
            house.change(0, 1, 2);
            house.pass(4);
            Check.due("the first bill", house.bill(0), 100);
            house.reverse(0);
            Check.due("behind the reverse", house.bill(0), -100);
            dueCents(house, 0, 0, 0);
        });
        Check.that("taken back from the right one of three", () -> {
            MeterHouse house = flat(0);
            house.tariff(3, 7, 1000, 7);
            house.change(0, 1, 1);
            house.pass(1);
            house.change(0, 3, 2);
            house.pass(1);
            house.pass(1);
            Check.due("the first bill", house.bill(0), 20 + 50 + 70);
            house.reverse(0);
            Check.due("behind the reverse", house.bill(0), -20);
            dueCents(house, 120, 20, 100);
            Check.due("the income of 3", house.income(3), 0);
        });
    }

    /** What a bill answers that takes a day back from the supplier 1, so many days later. */
    private static void dueTakenBack(int daysAgo, long due, long account) {
        MeterHouse house = flat(0);
        house.change(0, 1, 1);
        house.pass(2);
        house.bill(0);
        // from the day 2 on there is nothing to pay
        house.tariff(0, 0, 0, 0);
        house.tariff(1, 0, 0, 0);
        pass(house, daysAgo - 1);
        house.reverse(0);
        Check.due("the day 1, " + daysAgo + " days ago", house.bill(0), due);
        dueCents(house, account, account, 0);
        Check.due("again", house.bill(0), 0);
    }

    private static void takenBackBehindTheLimit() {
        Check.that("For each day, however long ago, it is taken back, but not billed more behind 100 days", () -> {
            dueTakenBack(1, -30, 40);
            dueTakenBack(99, -30, 40);
            dueTakenBack(100, -30, 40);
            dueTakenBack(101, -50, 20);
            dueTakenBack(102, -50, 20);
            dueTakenBack(800, -50, 20);
        });
    }

    private static void incomes() {
        Check.that("A supplier has what it has billed, less what was taken back, of all points", () -> {
            MeterHouse house = flat(0);
            house.point(0, MeterHouse.FLAT, 5, 1, 0);
            house.point(1, MeterHouse.FLAT, 5, 1, 0);
            house.change(1, 1, 1);
            house.pass(2);
            for (int point = 0; point < 3; point++) {
                house.bill(point);
            }
            Check.due("the income of 0", house.income(0), 40 + 20);
            Check.due("the income of 1", house.income(1), 50 + 100);
            house.reverse(1);
            house.bill(1);
            Check.due("the income of 0 then", house.income(0), 40 + 40);
            Check.due("the income of 1 then", house.income(1), 100);
            Check.due("the income of 2", house.income(2), 0);
            Check.due("the income of 3", house.income(3), 0);
        });
        Check.that("an income above an int", () -> {
            MeterHouse house = new MeterHouse();
            house.tariff(3, 100, 0, 100);
            house.point(3, MeterHouse.FLAT, 6, 10, 1);
            for (int pair = 0; pair < 3; pair++) {
                house.pass(1);
                house.exchange(0, 0, 6, 10);
                house.pass(1);
                house.exchange(0, 999999, 6, 10);
            }
            // the first one is turned back, and three that are new run up
            long due = 4 * 9999990L * 100;
            Check.due("the bill", house.bill(0), due);
            Check.due("the income", house.income(3), due);
            Check.due("the account", house.account(0), due);
        });
    }

    private static void accounts() {
        Check.that("The account of a point is all that was billed less what was taken back, and less credit", () -> {
            MeterHouse house = flat(2);
            Check.due("at first", house.account(0), 0);
            house.credit(0, 98);
            Check.due("below 0 by credit", house.account(0), -1);
            Check.due("a bill says how much it is more", house.bill(0), 40);
            Check.due("then", house.account(0), 39);
            house.credit(0, 97 * 50 + 50);
            dueCents(house, -11, 40, 0);
            Check.due("a bill knows no credit", house.bill(0), 0);
        });
        Check.that("the account of each point alone", () -> {
            MeterHouse house = flat(0);
            house.point(0, MeterHouse.FLAT, 5, 1, 0);
            house.pass(1);
            house.credit(1, 97 * 5 + 5);
            house.bill(0);
            Check.due("the account of 0", house.account(0), 20);
            Check.due("the account of 1", house.account(1), -5);
        });
    }

    private static int codeOf(int number) {
        return 97 * number + number % 97;
    }

    private static void codes() {
        Check.that("A code is 97 times a number, and the rest of that number by 97, together", () -> {
            for (int number : new int[] {0, 1, 2, 95, 98, 195, 22139005, 22139006}) {
                int code = codeOf(number);
                Check.due("code " + code, flat(0).credit(0, code), number % 1000);
                Check.outOfRange("the code less 1", () -> flat(0).credit(0, code - 1));
                Check.outOfRange("the code and 1", () -> flat(0).credit(0, code + 1));
            }
        });
        Check.that("the rest of a number by 97 is 96 at most, and 0 then", () -> {
            Check.outOfRange("the number 96 with the rest 95", () -> flat(0).credit(0, 9407));
            Check.due("the number 96", flat(0).credit(0, 9408), 96);
            Check.due("the number 97", flat(0).credit(0, 9409), 97);
            Check.outOfRange("the number 97 with the rest 1", () -> flat(0).credit(0, 9410));
            Check.outOfRange("the number 97 with the rest 97", () -> flat(0).credit(0, 9506));
            Check.due("the number 98", flat(0).credit(0, 9507), 98);
        });
        Check.that("each code up to 2000", () -> {
            MeterHouse house = flat(0);
            for (int code = 0; code <= 2000; code++) {
                int told = code;
                boolean is = code / 97 == code % 97;
                Check.dueText("code " + code, Check.answer(() -> house.credit(0, told)),
                        is ? Integer.toString(code / 97) : "throws.IllegalArgumentException");
            }
        });
    }

    private static void cents() {
        Check.that("it counts for the rest of its number by 1000 cents", () -> {
            int[][] due = {{0, 0}, {1, 1}, {999, 999}, {1000, 0}, {1001, 1}, {1999, 999}, {2000, 0}, {22139006, 6}};
            for (int[] number : due) {
                MeterHouse house = flat(0);
                Check.due("the number " + number[0], house.credit(0, codeOf(number[0])), number[1]);
                Check.due("the account", house.account(0), -number[1]);
                Check.due("the income", house.income(0), 0);
            }
        });
    }

    private static void codesTwice() {
        Check.that("it counts once", () -> {
            for (int number : new int[] {0, 1, 500, 1000, 22139006}) {
                MeterHouse house = flat(0);
                house.credit(0, codeOf(number));
                Check.notNow("told twice", () -> house.credit(0, codeOf(number)));
                Check.notNow("told three times", () -> house.credit(0, codeOf(number)));
                Check.due("the account", house.account(0), -(number % 1000));
            }
        });
        Check.that("whichever the point was", () -> {
            MeterHouse house = flat(0);
            house.point(1, MeterHouse.FLAT, 5, 1, 0);
            house.credit(0, codeOf(5));
            Check.notNow("told for another point", () -> house.credit(1, codeOf(5)));
            house.pass(60);
            Check.notNow("told later", () -> house.credit(1, codeOf(5)));
            Check.due("the account of the other", house.account(1), 0);
        });
        Check.that("a code that was refused was not taken", () -> {
            MeterHouse house = flat(0);
            Check.noSuch("of no point", () -> house.credit(1, codeOf(5)));
            Check.due("of a point", house.credit(0, codeOf(5)), 5);
        });
        Check.that("other codes count, greater and smaller ones, and those next to it", () -> {
            MeterHouse house = flat(0);
            for (int number : new int[] {96, 97, 95, 98, 0, 22139006, 1}) {
                Check.due("the number " + number, house.credit(0, codeOf(number)), number % 1000);
            }
            Check.due("the account", house.account(0), -(96 + 97 + 95 + 98 + 6 + 1));
        });
        Check.that("other codes of the same cents count", () -> {
            MeterHouse house = flat(0);
            Check.due("the number 7", house.credit(0, codeOf(7)), 7);
            Check.due("the number 1007", house.credit(0, codeOf(1007)), 7);
            Check.due("the number 2007", house.credit(0, codeOf(2007)), 7);
            Check.due("the account", house.account(0), -21);
        });
        Check.that("as many codes as there are calls", () -> {
            MeterHouse house = new MeterHouse();
            house.point(0, MeterHouse.FLAT, 5, 1, 0);
            for (int number = 0; number < 509; number++) {
                Check.due("the number " + number, house.credit(0, codeOf(number)), number);
            }
            Check.notNow("the first of them again", () -> house.credit(0, codeOf(0)));
            Check.notNow("the last of them again", () -> house.credit(0, codeOf(508)));
        });
    }
}
