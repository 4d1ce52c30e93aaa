/** Promises 5 to 7 and 19 to 21: read, confirm, exchange, volume, volumeAnew, of. */
public final class ReadingsTest {
    public static void main(String[] args) {
        useAndSpread();
        restsToTheEarlier();
        restsByWeather();
        restsOfManyDays();
        rollsOver();
        plausibleAtMost();
        plausibleByWeather();
        turnedBack();
        doubtInPlaceOfADoubt();
        doubtEndsWithAReading();
        confirmsLater();
        confirmedIsOfItsDay();
        readRanges();
        exchangesTakeAnything();
        exchangeStartsAtZero();
        exchangeRanges();
        pacesAndEstimates();
        ofRanges();
        daysOfVolumes();
        pointsSideBySide();
        Check.end();
    }

    /** Compares the volume of each day, both ways to find it. */
    private static void dueVolumes(MeterHouse house, int point, int from, int... volumes) {
        for (int place = 0; place < volumes.length; place++) {
            int day = from + place;
            Check.due("volume(" + point + ", " + day + ")", house.volume(point, day), volumes[place]);
            Check.due("volumeAnew(" + point + ", " + day + ")", house.volumeAnew(point, day), volumes[place]);
        }
    }

    private static void useAndSpread() {
        MeterHouse house = new MeterHouse();
        house.point(0, MeterHouse.FLAT, 4, 3, 100);
        Check.notNow("read on the first day", () -> house.read(0, 100));
        house.pass(4);
        dueVolumes(house, 0, 0, 10, 10, 10, 10);
        Check.due("read(0, 140)", house.read(0, 140), 120);
        Check.notNow("a second reading of today", () -> house.read(0, 141));
        dueVolumes(house, 0, 0, 30, 30, 30, 30);
        Check.due("the pace", house.of(0, 0), 3000);
        Check.due("the latest day", house.of(0, 1), 4);
        Check.due("how many were taken", house.of(0, 2), 2);
        house.pass(2);
        dueVolumes(house, 0, 3, 30, 30, 30);
        Check.due("read(0, 140) again", house.read(0, 140), 0);
        dueVolumes(house, 0, 3, 30, 0, 0);
        Check.due("the pace of no use", house.of(0, 0), 0);
        house.pass(1);
        dueVolumes(house, 0, 6, 0);
        Check.due("read(0, 150)", house.read(0, 150), 30);
        dueVolumes(house, 0, 0, 30, 30, 30, 30, 0, 0, 30);
        Check.due("how many were taken at last", house.of(0, 2), 4);
    }

    private static void restsToTheEarlier() {
        MeterHouse house = new MeterHouse();
        house.point(0, MeterHouse.FLAT, 3, 1, 0);
        house.pass(3);
        Check.due("7 units on 3 days", house.read(0, 7), 7);
        dueVolumes(house, 0, 0, 3, 2, 2);
        Check.due("7000 by 30", house.of(0, 0), 233);
        house.pass(3);
        dueVolumes(house, 0, 3, 2, 2, 2);
        Check.due("8 units on 3 days", house.read(0, 15), 8);
        dueVolumes(house, 0, 0, 3, 2, 2, 3, 3, 2);
        house.pass(4);
        Check.due("1 unit on 4 days", house.read(0, 16), 1);
        dueVolumes(house, 0, 6, 1, 0, 0, 0);
    }

    private static void restsByWeather() {
        MeterHouse house = new MeterHouse();
        house.point(0, MeterHouse.HOUSE, 3, 1, 0);
        house.point(0, MeterHouse.HOUSE, 3, 1, 0);
        house.point(0, MeterHouse.SHOP, 3, 1, 0);
        house.weather(0, 0, 0);
        house.weather(1, 1, 30);
        house.weather(2, 2, 15);
        house.pass(3);
        // 100, 400, 250 by 75: 1 and 25, 5 and 25, 3 and 25
        Check.due("10 units on 10, 40, 25", house.read(0, 10), 10);
        dueVolumes(house, 0, 0, 2, 5, 3);
        // 110, 440, 275 by 75: 1 and 35, 5 and 65, 3 and 50
        Check.due("11 units on 10, 40, 25", house.read(1, 11), 11);
        dueVolumes(house, 1, 0, 1, 6, 4);
        // 45, 855, 450 by 150: 0 and 45, 5 and 105, 3 and 0
        Check.due("9 units on 5, 95, 50", house.read(2, 9), 9);
        dueVolumes(house, 2, 0, 0, 6, 3);
        Check.due("9000 by 150", house.of(2, 0), 60);
        house.pass(1);
        // 60 times 35 by 1000
        dueVolumes(house, 2, 3, 2);
    }

    private static void restsOfManyDays() {
        MeterHouse house = new MeterHouse();
        house.point(0, MeterHouse.HOUSE, 4, 1, 0);
        int all = 0;
        for (int day = 0; day < 31; day++) {
            house.weather(day, day, 30 - day);
            all += 40 - day;
        }
        house.pass(31);
        int use = 1000;
        Check.due("1000 units on 31 days", house.read(0, use), use);
        int[] parts = new int[31];
        int left = use;
        for (int day = 0; day < 31; day++) {
            parts[day] = use * (40 - day) / all;
            left -= parts[day];
        }
        boolean[] served = new boolean[31];
        for (; left > 0; left--) {
            int best = -1;
            for (int day = 0; day < 31; day++) {
                if (!served[day] && (best < 0 || use * (40 - day) % all > use * (40 - best) % all)) {
                    best = day;
                }
            }
            served[best] = true;
            parts[best]++;
        }
        dueVolumes(house, 0, 0, parts);
    }

    private static void rollsOver() {
        MeterHouse house = new MeterHouse();
        house.point(0, MeterHouse.FLAT, 3, 2, 990);
        house.point(0, MeterHouse.FLAT, 6, 10, 999999);
        house.pass(2);
        Check.due("990 to 10 of 3 digits, twice", house.read(0, 10), 40);
        dueVolumes(house, 0, 0, 20, 20);
        Check.due("999999 to 0 of 6 digits, ten times", house.read(1, 0), 10);
        dueVolumes(house, 1, 0, 5, 5);
        house.pass(1);
        Check.due("10 to 20", house.read(0, 20), 20);
    }

    private static void plausibleAtMost() {
        MeterHouse house = new MeterHouse();
        house.point(0, MeterHouse.FLAT, 4, 1, 0);
        house.point(0, MeterHouse.FLAT, 4, 2, 0);
        house.pass(1);
        Check.due("201 on a day", house.read(0, 201), MeterHouse.NONE);
        Check.due("200 on a day", house.read(0, 200), 200);
        Check.due("202 on a day", house.read(1, 101), MeterHouse.NONE);
        Check.due("200 on a day, twice 100", house.read(1, 100), 200);
        house.pass(3);
        Check.due("601 on three days", house.read(0, 801), MeterHouse.NONE);
        Check.due("600 on three days", house.read(0, 800), 600);
        dueVolumes(house, 0, 0, 200, 200, 200, 200);
    }

    private static void plausibleByWeather() {
        MeterHouse house = new MeterHouse();
        house.point(0, MeterHouse.SHOP, 4, 1, 0);
        house.weather(0, 0, 0);
        house.weather(1, 1, 30);
        house.weather(2, 2, 30);
        house.pass(1);
        // the day 0 weighs 5: the reading's own day does not count
        Check.due("101 on a weight of 5", house.read(0, 101), MeterHouse.NONE);
        house.pass(1);
        // 5 and 95 weigh 100
        Check.due("2001 on a weight of 100", house.read(0, 2001), MeterHouse.NONE);
        Check.due("2000 on a weight of 100", house.read(0, 2000), 2000);
        dueVolumes(house, 0, 0, 100, 1900);
    }

    private static void turnedBack() {
        MeterHouse house = new MeterHouse();
        house.point(0, MeterHouse.FLAT, 3, 1, 500);
        house.pass(4);
        Check.due("500 to 499 on four days", house.read(0, 499), MeterHouse.NONE);
        Check.due("the doubted day", house.of(0, 4), 4);
        Check.due("how many were taken", house.of(0, 2), 1);
        Check.due("the latest day", house.of(0, 1), 0);
        Check.due("the pace", house.of(0, 0), 1000);
        dueVolumes(house, 0, 0, 10, 10, 10, 10);
        house.pass(1);
        // 999 are at most 20 times 50
        Check.due("500 to 499 on five days", house.read(0, 499), 999);
        dueVolumes(house, 0, 0, 200, 200, 200, 200, 199);
        Check.due("none is doubted", house.of(0, 4), MeterHouse.NONE);
    }

    private static void doubtInPlaceOfADoubt() {
        MeterHouse house = new MeterHouse();
        house.point(0, MeterHouse.FLAT, 5, 1, 0);
        house.pass(1);
        Check.due("a first doubt", house.read(0, 5000), MeterHouse.NONE);
        Check.due("a second one of that day", house.read(0, 6000), MeterHouse.NONE);
        house.pass(2);
        Check.due("the doubted day", house.of(0, 4), 1);
        Check.due("a third one later", house.read(0, 9000), MeterHouse.NONE);
        Check.due("the doubted day then", house.of(0, 4), 3);
        house.pass(1);
        Check.due("confirm the third", house.confirm(0), 9000);
        Check.notNow("confirm again", () -> house.confirm(0));
        dueVolumes(house, 0, 0, 3000, 3000, 3000, 3000);
        Check.due("the latest day", house.of(0, 1), 3);
        Check.due("how many were taken", house.of(0, 2), 2);
        Check.due("the pace", house.of(0, 0), 300000);
    }

    private static void doubtEndsWithAReading() {
        MeterHouse house = new MeterHouse();
        house.point(0, MeterHouse.FLAT, 4, 1, 0);
        Check.notNow("confirm without a doubt", () -> house.confirm(0));
        house.pass(1);
        house.read(0, 300);
        Check.due("read behind a doubt of the same day", house.read(0, 50), 50);
        Check.notNow("confirm, as one of that day was taken", () -> house.confirm(0));
        Check.due("none is doubted", house.of(0, 4), MeterHouse.NONE);
        house.pass(1);
        house.read(0, 500);
        house.pass(1);
        Check.due("read behind a doubt of another day", house.read(0, 90), 40);
        Check.notNow("confirm, as one was taken since", () -> house.confirm(0));
        house.pass(1);
        house.read(0, 999);
        Check.due("a doubt of today", house.of(0, 4), 4);
        Check.due("exchange behind a doubt of the same day", house.exchange(0, 100, 3, 1), 10);
        Check.notNow("confirm, as the meter was exchanged", () -> house.confirm(0));
        house.pass(1);
        house.read(0, 300);
        house.pass(1);
        Check.due("confirm the new meter's doubt", house.confirm(0), 300);
        Check.noSuch("confirm no point", () -> house.confirm(1));
        Check.noSuch("confirm the point -1", () -> house.confirm(-1));
        dueVolumes(house, 0, 0, 50, 20, 20, 10, 300, 300);
    }

    private static void confirmsLater() {
        MeterHouse house = new MeterHouse();
        house.point(0, MeterHouse.HOUSE, 4, 2, 0);
        house.weather(1, 1, 0);
        house.pass(2);
        Check.due("602 on a weight of 30", house.read(0, 301), MeterHouse.NONE);
        house.weather(2, 2, 20);
        house.pass(1);
        dueVolumes(house, 0, 0, 20, 10, 30);
        Check.due("confirm(0)", house.confirm(0), 602);
        // 12040, 6020 by 30: 401 and 10, 200 and 20
        dueVolumes(house, 0, 0, 401, 201);
        Check.due("602000 by 30", house.of(0, 0), 20066);
        // 20066 times 30 by 1000
        dueVolumes(house, 0, 2, 601);
        Check.due("read behind the confirmed one", house.read(0, 400), 198);
        dueVolumes(house, 0, 0, 401, 201, 198);
    }

    private static void confirmedIsOfItsDay() {
        MeterHouse house = new MeterHouse();
        house.point(0, MeterHouse.FLAT, 4, 1, 0);
        house.pass(1);
        house.read(0, 900);
        Check.due("confirm on the same day", house.confirm(0), 900);
        Check.notNow("read on the day of the confirmed one", () -> house.read(0, 901));
        Check.notNow("exchange on the day of the confirmed one", () -> house.exchange(0, 901, 3, 1));
        house.pass(1);
        house.read(0, 2000);
        house.pass(1);
        Check.due("confirm on the next day", house.confirm(0), 1100);
        Check.due("exchange on the next day", house.exchange(0, 2001, 3, 1), 1);
        dueVolumes(house, 0, 0, 900, 1100, 1);
    }

    private static void readRanges() {
        MeterHouse house = new MeterHouse();
        house.point(0, MeterHouse.FLAT, 3, 1, 0);
        Check.noSuch("read(1, 0)", () -> house.read(1, 0));
        Check.noSuch("read(-1, -1)", () -> house.read(-1, -1));
        Check.outOfRange("read(0, 1000) on the first day", () -> house.read(0, 1000));
        Check.outOfRange("read(0, -1) on the first day", () -> house.read(0, -1));
        Check.notNow("read(0, 999) on the first day", () -> house.read(0, 999));
        house.pass(1);
        Check.outOfRange("read(0, 1000)", () -> house.read(0, 1000));
        Check.outOfRange("read(0, the most)", () -> house.read(0, Integer.MAX_VALUE));
        Check.outOfRange("read(0, the least)", () -> house.read(0, Integer.MIN_VALUE));
        Check.due("read(0, 999)", house.read(0, 999), MeterHouse.NONE);
        Check.due("read(0, 0)", house.read(0, 0), 0);
    }

    private static void exchangesTakeAnything() {
        MeterHouse house = new MeterHouse();
        house.point(0, MeterHouse.FLAT, 6, 10, 1);
        house.pass(1);
        Check.due("a use that no reading could have", house.exchange(0, 0, 3, 1), 9999990);
        dueVolumes(house, 0, 0, 9999990);
        Check.due("its pace", house.of(0, 0), 999999000);
        Check.due("none is doubted", house.of(0, 4), MeterHouse.NONE);
        Check.due("how many were taken", house.of(0, 2), 2);
        Check.due("the latest day", house.of(0, 1), 1);
        house.pass(1);
        dueVolumes(house, 0, 1, 9999990);
    }

    private static void exchangeStartsAtZero() {
        MeterHouse house = new MeterHouse();
        house.point(0, MeterHouse.FLAT, 4, 1, 9000);
        Check.notNow("exchange on the first day", () -> house.exchange(0, 9000, 3, 1));
        house.pass(2);
        Check.due("exchange", house.exchange(0, 9030, 3, 5), 30);
        Check.notNow("read on the day of the exchange", () -> house.read(0, 1));
        Check.notNow("exchange again on that day", () -> house.exchange(0, 0, 4, 1));
        dueVolumes(house, 0, 0, 15, 15);
        house.pass(2);
        Check.outOfRange("the new one has 3 digits", () -> house.read(0, 1000));
        Check.due("the first use of the new one", house.read(0, 6), 30);
        Check.due("how many were taken", house.of(0, 2), 3);
        dueVolumes(house, 0, 0, 15, 15, 15, 15);
        house.pass(1);
        Check.due("the new one rolls over", house.exchange(0, 3, 6, 1), 4985);
        house.pass(1);
        Check.due("a second exchange", house.exchange(0, 9, 6, 1), 9);
        dueVolumes(house, 0, 4, 4985, 9);
    }

    private static void exchangeRanges() {
        MeterHouse house = new MeterHouse();
        house.point(0, MeterHouse.FLAT, 3, 1, 0);
        Check.noSuch("exchange of no point", () -> house.exchange(1, -1, 0, 0));
        Check.outOfRange("last -1 on the first day", () -> house.exchange(0, -1, 3, 1));
        house.pass(1);
        Check.outOfRange("last 1000 of 3 digits", () -> house.exchange(0, 1000, 4, 1));
        Check.outOfRange("digits 2", () -> house.exchange(0, 5, 2, 1));
        Check.outOfRange("digits 7", () -> house.exchange(0, 5, 7, 1));
        Check.outOfRange("multiplier 0", () -> house.exchange(0, 5, 3, 0));
        Check.outOfRange("multiplier 11", () -> house.exchange(0, 5, 3, 11));
        Check.due("what was refused took nothing", house.of(0, 2), 1);
        Check.due("6 digits, 10 times", house.exchange(0, 999, 6, 10), 999);
        house.pass(1);
        Check.due("the most of the new one", house.read(0, 999999), MeterHouse.NONE);
        Check.due("20 of the new one", house.read(0, 20), 200);
    }

    private static void pacesAndEstimates() {
        MeterHouse house = new MeterHouse();
        house.point(0, MeterHouse.SHOP, 6, 10, 1);
        house.weather(0, 0, 0);
        house.weather(1, 1, 30);
        house.pass(1);
        house.exchange(0, 0, 6, 10);
        Check.due("9999990000 by 5", house.of(0, 0), 1999998000);
        house.pass(1);
        dueVolumes(house, 0, 1, 189999810);
    }

    private static void ofRanges() {
        MeterHouse house = new MeterHouse();
        house.pass(3);
        house.point(2, MeterHouse.FLAT, 3, 1, 0);
        Check.due("of(0, 0)", house.of(0, 0), 1000);
        Check.due("of(0, 1)", house.of(0, 1), 3);
        Check.due("of(0, 2)", house.of(0, 2), 1);
        Check.due("of(0, 3)", house.of(0, 3), 2);
        Check.due("of(0, 4)", house.of(0, 4), -1);
        Check.outOfRange("of(0, 5)", () -> house.of(0, 5));
        Check.outOfRange("of(0, -1)", () -> house.of(0, -1));
        Check.noSuch("of(1, 5)", () -> house.of(1, 5));
        Check.noSuch("of(-1, 0)", () -> house.of(-1, 0));
        Check.noSuch("of(8, 0)", () -> house.of(8, 0));
    }

    private static void daysOfVolumes() {
        MeterHouse house = new MeterHouse();
        house.point(0, MeterHouse.FLAT, 3, 1, 0);
        Check.noSuch("volume of the first day on it", () -> house.volume(0, 0));
        Check.noSuch("volumeAnew of the first day on it", () -> house.volumeAnew(0, 0));
        house.pass(4);
        house.point(0, MeterHouse.HOUSE, 3, 1, 0);
        house.pass(2);
        dueVolumes(house, 1, 4, 20, 20);
        Check.due("read(1, 100)", house.read(1, 100), 100);
        dueVolumes(house, 1, 4, 50, 50);
        Check.noSuch("volume ahead of the first day", () -> house.volume(1, 3));
        Check.noSuch("volumeAnew ahead of the first day", () -> house.volumeAnew(1, 3));
        Check.noSuch("volume of today", () -> house.volume(1, 6));
        Check.noSuch("volumeAnew of today", () -> house.volumeAnew(1, 6));
        Check.noSuch("volume of the day -1", () -> house.volume(0, -1));
        Check.noSuch("volumeAnew of the day -1", () -> house.volumeAnew(0, -1));
        Check.noSuch("volume of no point", () -> house.volume(2, 5));
        Check.noSuch("volumeAnew of no point", () -> house.volumeAnew(2, 5));
        Check.noSuch("volume of the point -1", () -> house.volume(-1, 5));
        Check.noSuch("volumeAnew of the point -1", () -> house.volumeAnew(-1, 5));
    }

    private static void pointsSideBySide() {
        MeterHouse house = new MeterHouse();
        house.point(0, MeterHouse.FLAT, 3, 1, 0);
        house.point(1, MeterHouse.HOUSE, 3, 1, 0);
        house.weather(0, 0, 0);
        house.pass(2);
        house.read(0, 40);
        house.read(1, 90);
        dueVolumes(house, 0, 0, 20, 20);
        dueVolumes(house, 1, 0, 30, 60);
        house.pass(2);
        house.read(0, 43);
        dueVolumes(house, 1, 0, 30, 60, 60, 60);
        house.read(1, 95);
        dueVolumes(house, 0, 0, 20, 20, 2, 1);
        dueVolumes(house, 1, 0, 30, 60, 3, 2);
        Check.due("the pace of the first", house.of(0, 0), 150);
        Check.due("the pace of the second", house.of(1, 0), 125);
    }
}
