/** Terms, "Days, points, weather" and "Words"; Promises 1 to 4 and 22: each sentence at its edges. */
public final class DayEdgesTest {
    public static void main(String[] args) {
        newHouse();
        degrees();
        countOfDays();
        passing();
        upTo900();
        points();
        weights();
        words();
        signsOfWords();
        Check.end();
    }

    private static MeterHouse at(int today) {
        MeterHouse house = new MeterHouse();
        for (int day = 0; day < today; day += Math.min(60, today - day)) {
            house.pass(Math.min(60, today - day));
        }
        return house;
    }

    private static void newHouse() {
        Check.that("No points", () -> {
            MeterHouse house = new MeterHouse();
            for (int point = -1; point <= 8; point++) {
                int asked = point;
                Check.noSuch("of the point " + point, () -> house.of(asked, 1));
            }
            Check.due("the first one is 0", house.point(0, 0, 3, 1, 0), 0);
        });
        Check.that("today is the day 0 at first", () -> {
            MeterHouse house = new MeterHouse();
            Check.noSuch("the weather of -1", () -> house.weather(-1, 0, 11));
            Check.due("the weather of 0", house.weather(0, 0, 11), 1);
            house.point(0, 0, 3, 1, 0);
            Check.due("a point's first reading", house.of(0, 1), 0);
            Check.noSuch("a change for 0", () -> house.change(0, 1, 0));
            Check.due("today one day later", house.pass(1), 1);
        });
    }

    private static void degrees() {
        Check.that("Each day has degrees, 10 at first", () -> {
            for (int day : new int[] {0, 1, 499, 900, 998, 999}) {
                MeterHouse house = new MeterHouse();
                Check.due("10 told for " + day, house.weather(day, day, 10), 0);
                Check.due("9 told for " + day, house.weather(day, day, 9), 1);
            }
            Check.due("10 told for all", new MeterHouse().weather(0, 999, 10), 0);
            Check.due("11 told for all", new MeterHouse().weather(0, 999, 11), 1000);
        });
        Check.that("they can be told for today and later days", () -> {
            MeterHouse house = at(60);
            Check.due("today", house.weather(60, 60, 3), 1);
            Check.noSuch("yesterday", () -> house.weather(59, 59, 3));
            Check.noSuch("yesterday and today", () -> house.weather(59, 60, 3));
            Check.due("tomorrow", house.weather(61, 61, 3), 1);
            Check.due("the last day", house.weather(999, 999, 3), 1);
            Check.noSuch("the day behind the last", () -> house.weather(999, 1000, 3));
        });
        Check.that("degrees are of the days that were told alone, the ends with them", () -> {
            MeterHouse house = new MeterHouse();
            house.point(0, MeterHouse.HOUSE, 3, 1, 0);
            house.weather(2, 4, 30);
            house.pass(6);
            int[] volumes = {20, 20, 40, 40, 40, 20};
            for (int day = 0; day < 6; day++) {
                Check.due("the weight of " + day, house.volume(0, day), volumes[day]);
            }
        });
        Check.that("degrees that are told later leave the days that have passed", () -> {
            MeterHouse house = new MeterHouse();
            house.point(0, MeterHouse.HOUSE, 3, 1, 0);
            house.weather(0, 999, 0);
            house.pass(1);
            house.weather(1, 999, 30);
            house.pass(1);
            Check.due("the weight of 0", house.volume(0, 0), 10);
            Check.due("the weight of 1", house.volume(0, 1), 40);
        });
    }

    private static void countOfDays() {
        Check.that("how many days have others by that: none", () -> {
            MeterHouse house = new MeterHouse();
            house.weather(3, 5, 0);
            Check.due("the same again", house.weather(3, 5, 0), 0);
            Check.due("the same for one of them", house.weather(5, 5, 0), 0);
            Check.due("10, as they have", house.weather(6, 999, 10), 0);
        });
        Check.that("how many days have others by that: some", () -> {
            MeterHouse house = new MeterHouse();
            house.weather(3, 5, 0);
            Check.due("two of three, behind", house.weather(5, 7, 0), 2);
            Check.due("one of three, ahead", house.weather(2, 4, 0), 1);
            Check.due("back to 10 for those and others", house.weather(0, 99, 10), 6);
        });
        Check.that("how many days have others by that: all", () -> {
            MeterHouse house = new MeterHouse();
            Check.due("one day", house.weather(0, 0, 0), 1);
            Check.due("each other day", house.weather(0, 999, 30), 1000);
        });
    }

    private static void passing() {
        Check.that("Lets days pass, one or 60", () -> {
            MeterHouse one = new MeterHouse();
            MeterHouse more = new MeterHouse();
            for (MeterHouse house : new MeterHouse[] {one, more}) {
                house.point(0, MeterHouse.FLAT, 3, 1, 0);
                house.point(1, MeterHouse.FLAT, 3, 1, 0);
                house.change(0, 2, 1);
                house.change(1, 3, 60);
            }
            for (int day = 1; day <= 60; day++) {
                Check.due("today", one.pass(1), day);
            }
            Check.due("today", more.pass(60), 60);
            for (int point = 0; point < 2; point++) {
                Check.due("the supplier today", more.of(point, 3), one.of(point, 3));
                for (int day : new int[] {0, 1, 59}) {
                    Check.dueText("the word of " + day, Check.word(more, point, day), Check.word(one, point, day));
                }
            }
            Check.dueText("the day ahead of the first change", Check.word(more, 0, 0), "e10/s0");
            Check.dueText("the day of the first change", Check.word(more, 0, 1), "e10/s2");
            Check.dueText("the day ahead of the second change", Check.word(more, 1, 59), "e10/s1");
            Check.due("the supplier by the second change", more.of(1, 3), 3);
        });
    }

    private static void upTo900() {
        Check.that("today goes up to 900", () -> {
            Check.due("60 from 840", at(840).pass(60), 900);
            Check.notNow("60 from 841", () -> at(841).pass(60));
            Check.due("59 from 841", at(841).pass(59), 900);
            Check.due("1 from 899", at(899).pass(1), 900);
            Check.notNow("2 from 899", () -> at(899).pass(2));
            Check.notNow("1 from 900", () -> at(900).pass(1));
        });
        Check.that("a pass that throws lets no day pass", () -> {
            MeterHouse house = at(899);
            house.point(0, MeterHouse.FLAT, 3, 1, 0);
            house.change(0, 1, 900);
            Check.notNow("2 from 899", () -> house.pass(2));
            Check.outOfRange("61 from 899", () -> house.pass(61));
            Check.due("the supplier then", house.of(0, 3), 0);
            Check.noSuch("the volume of 899", () -> house.volume(0, 899));
            Check.due("today at last", house.pass(1), 900);
            Check.due("the supplier at last", house.of(0, 3), 1);
        });
        Check.that("on the day 900 there is each call but pass", () -> {
            MeterHouse house = at(900);
            Check.due("point", house.point(0, MeterHouse.FLAT, 3, 1, 0), 0);
            Check.due("its first day", house.of(0, 1), 900);
            Check.due("weather", house.weather(900, 999, 11), 100);
            Check.due("inflow of 899", house.inflow(899, 4), 0);
            Check.due("settle 899", house.settle(899), 1);
            Check.due("bill", house.bill(0), 0);
            Check.due("change", house.change(0, 1, 901), 0);
            Check.due("object", house.object(0), 901);
            Check.noSuch("inflow of 900", () -> house.inflow(900, 4));
        });
    }

    private static void points() {
        Check.that("Points are numbered from 0, at most 8", () -> {
            MeterHouse house = new MeterHouse();
            for (int number = 0; number < 8; number++) {
                int behind = number;
                Check.noSuch("the point ahead of its time", () -> house.account(behind));
                Check.due("the number", house.point(3, 2, 6, 10, 999999), number);
                Check.due("its account", house.account(number), 0);
            }
            Check.notNow("the ninth", () -> house.point(3, 2, 6, 10, 999999));
            Check.noSuch("the account of 8", () -> house.account(8));
        });
        Check.that("at most 8, on later days too", () -> {
            MeterHouse house = new MeterHouse();
            for (int number = 0; number < 8; number++) {
                house.pass(1);
                house.point(0, 0, 3, 1, 0);
            }
            house.pass(60);
            Check.notNow("the ninth", () -> house.point(0, 0, 3, 1, 0));
        });
        Check.that("a point that was refused has no number", () -> {
            MeterHouse house = new MeterHouse();
            Check.outOfRange("a class 3", () -> house.point(0, 3, 3, 1, 0));
            Check.noSuch("a supplier 4", () -> house.point(4, 0, 3, 1, 0));
            Check.noSuch("the point 0", () -> house.of(0, 0));
            Check.due("the first one", house.point(0, 0, 3, 1, 0), 0);
        });
    }

    private static void dueWeights(int kind, int at0, int at1, int at10, int at30) {
        MeterHouse house = new MeterHouse();
        house.point(0, kind, 3, 1, 0);
        house.weather(0, 0, 0);
        house.weather(1, 1, 1);
        house.weather(3, 3, 30);
        house.pass(4);
        int[] weights = {at0, at1, at10, at30};
        for (int day = 0; day < 4; day++) {
            Check.due("the weight of " + day, house.volume(0, day), weights[day]);
        }
    }

    private static void weights() {
        Check.that("The weight of a day for a FLAT is 10", () -> dueWeights(MeterHouse.FLAT, 10, 10, 10, 10));
        Check.that("for a HOUSE 10 and the degrees", () -> dueWeights(MeterHouse.HOUSE, 10, 11, 20, 40));
        Check.that("for a SHOP 5 and three times the degrees", () -> dueWeights(MeterHouse.SHOP, 5, 8, 35, 95));
    }

    private static void words() {
        Check.that("m for a volume that was spread, e for an estimate", () -> {
            MeterHouse house = new MeterHouse();
            house.point(1, MeterHouse.FLAT, 3, 1, 0);
            house.pass(3);
            Check.dueText("ahead of a reading", Check.word(house, 0, 2), "e10/s1");
            house.read(0, 30);
            Check.dueText("the same units, spread", Check.word(house, 0, 2), "m10/s1");
            Check.dueText("the first day, spread", Check.word(house, 0, 0), "m10/s1");
            house.pass(1);
            Check.dueText("the day of the reading", Check.word(house, 0, 3), "e10/s1");
            Check.dueText("the day ahead of the reading", Check.word(house, 0, 2), "m10/s1");
            house.read(0, 999);
            Check.dueText("a doubt spreads nothing", Check.word(house, 0, 3), "e10/s1");
            house.confirm(0);
            Check.dueText("a confirmed one does", Check.word(house, 0, 3), "m969/s1");
        });
        Check.that("the volume, from one sign to nine", () -> {
            for (int units : new int[] {0, 9, 10, 99, 100, 999}) {
                MeterHouse house = new MeterHouse();
                house.point(0, MeterHouse.FLAT, 3, 1, 0);
                house.pass(1);
                house.exchange(0, units, 3, 1);
                Check.dueText("the word", Check.word(house, 0, 0), "m" + units + "/s0");
            }
            MeterHouse most = new MeterHouse();
            most.point(3, MeterHouse.SHOP, 6, 10, 1);
            most.weather(0, 0, 0);
            most.weather(1, 1, 30);
            most.pass(1);
            most.exchange(0, 0, 6, 10);
            most.pass(1);
            Check.dueText("seven signs", Check.word(most, 0, 0), "m9999990/s3");
            Check.dueText("nine signs", Check.word(most, 0, 1), "e189999810/s3");
        });
        Check.that("its supplier of the day, 0 to 3, not of today", () -> {
            MeterHouse house = new MeterHouse();
            house.point(0, MeterHouse.FLAT, 3, 1, 0);
            for (int supplier = 1; supplier < 4; supplier++) {
                house.change(0, supplier, supplier);
                house.pass(1);
            }
            house.pass(1);
            for (int supplier = 0; supplier < 4; supplier++) {
                Check.dueText("the word", Check.word(house, 0, supplier), "e10/s" + supplier);
            }
        });
    }

    private static void signsOfWords() {
        Check.that("the sign of a place; a blank behind its end", () -> {
            MeterHouse house = new MeterHouse();
            house.point(3, MeterHouse.HOUSE, 3, 1, 0);
            house.pass(1);
            Check.due("the first sign", house.word(0, 0, 0), 'e');
            Check.due("the slash", house.word(0, 0, 3), '/');
            Check.due("the last sign but one", house.word(0, 0, 4), 's');
            Check.due("the last sign", house.word(0, 0, 5), '3');
            Check.due("the first one behind its end", house.word(0, 0, 6), ' ');
            Check.due("one far behind its end", house.word(0, 0, 1000000), ' ');
        });
        Check.that("the end of a word goes with its length", () -> {
            MeterHouse house = new MeterHouse();
            house.point(2, MeterHouse.SHOP, 6, 10, 1);
            house.weather(0, 0, 0);
            house.weather(1, 1, 30);
            house.pass(1);
            house.exchange(0, 0, 6, 10);
            house.pass(1);
            Check.due("the last sign of 12", house.word(0, 1, 12), '2');
            Check.due("the first one behind it", house.word(0, 1, 13), ' ');
            Check.due("the last sign of 10", house.word(0, 0, 10), '2');
            Check.due("the first one behind that", house.word(0, 0, 11), ' ');
        });
    }
}
