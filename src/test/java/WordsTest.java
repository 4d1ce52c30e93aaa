/** Promise 22: word. */
public final class WordsTest {
    public static void main(String[] args) {
        words();
        longWords();
        behindTheEnd();
        noSuchWords();
        Check.end();
    }

    private static void words() {
        MeterHouse house = new MeterHouse();
        house.point(0, MeterHouse.FLAT, 4, 1, 0);
        house.change(0, 3, 2);
        house.pass(2);
        Check.dueText("an estimate", Check.word(house, 0, 0), "e10/s0");
        house.read(0, 250);
        house.pass(1);
        Check.dueText("a spread volume", Check.word(house, 0, 1), "m125/s0");
        Check.dueText("an estimate behind the reading", Check.word(house, 0, 2), "e125/s3");
        house.reverse(0);
        Check.dueText("the supplier that is changed back", Check.word(house, 0, 2), "e125/s0");
        house.read(0, 999);
        house.pass(1);
        Check.dueText("a doubt spreads nothing", Check.word(house, 0, 2), "e125/s0");
        house.exchange(0, 250, 3, 1);
        Check.dueText("no volume", Check.word(house, 0, 2), "m0/s0");
    }

    private static void longWords() {
        MeterHouse house = new MeterHouse();
        house.point(2, MeterHouse.SHOP, 6, 10, 1);
        house.weather(0, 0, 0);
        house.weather(1, 1, 30);
        house.pass(1);
        house.exchange(0, 0, 6, 10);
        house.pass(1);
        Check.dueText("the longest one that was spread", Check.word(house, 0, 0), "m9999990/s2");
        Check.dueText("the longest estimate", Check.word(house, 0, 1), "e189999810/s2");
    }

    private static void behindTheEnd() {
        MeterHouse house = new MeterHouse();
        house.point(1, MeterHouse.HOUSE, 4, 1, 0);
        house.pass(1);
        String due = "e20/s1";
        for (int place = 0; place < due.length(); place++) {
            Check.due("word(0, 0, " + place + ")", house.word(0, 0, place), due.charAt(place));
        }
        Check.due("the sign behind the end", house.word(0, 0, due.length()), ' ');
        Check.due("a sign far behind the end", house.word(0, 0, Integer.MAX_VALUE), ' ');
    }

    private static void noSuchWords() {
        MeterHouse house = new MeterHouse();
        house.pass(2);
        house.point(1, MeterHouse.HOUSE, 4, 1, 0);
        Check.noSuch("word on the first day", () -> house.word(0, 2, 0));
        house.pass(2);
        Check.due("word of the first day", house.word(0, 2, 0), 'e');
        Check.noSuch("word ahead of the first day", () -> house.word(0, 1, 0));
        Check.noSuch("word of today", () -> house.word(0, 4, 0));
        Check.noSuch("word of the place -1", () -> house.word(0, 2, -1));
        Check.noSuch("word of the least place", () -> house.word(0, 2, Integer.MIN_VALUE));
        Check.noSuch("word of no point", () -> house.word(1, 2, 0));
        Check.noSuch("word of the point -1", () -> house.word(-1, 2, 0));
    }
}
