import java.util.ArrayList;
import java.util.List;
import java.util.Random;

/**
 * All promises: long runs of calls, always the same ones, of which each answer is compared with that
 * of PlainHouse. A run has at most 512 calls.
 */
public final class ModelTest {
    private static final int RUNS = 1500;
    private static final int CALLS = 512;
    private static final int[] STRANGE = {-1, 1000, 1001, 899, 900, 901, 999, 60, 61, 4, 8, 2000000000,
        Integer.MAX_VALUE, Integer.MIN_VALUE};

    private final Random numbers;
    private final MeterHouse house = new MeterHouse();
    private final PlainHouse plain = new PlainHouse();
    private final List<String> calls = new ArrayList<>();
    private final int strangeOf;
    private final int mostDays;
    private int daySettled = 0;

    private ModelTest(int seed) {
        numbers = new Random(seed);
        strangeOf = new int[] {12, 60, 400}[seed % 3];
        mostDays = new int[] {2, 8, 60, 25}[seed % 4];
    }

    public static void main(String[] args) {
        for (int run = 0; run < RUNS; run++) {
            new ModelTest(run).go(run);
        }
        Check.end();
    }

    private void go(int run) {
        for (int call = 0; call < CALLS; call++) {
            String[] answers = next();
            calls.add(answers[0] + " = " + answers[1]);
            Check.dueText("run " + run + ", call " + call + ": " + answers[0], answers[1], answers[2]);
            if (!answers[1].equals(answers[2])) {
                System.out.println("  after " + calls.subList(Math.max(0, call - 12), call));
                return;
            }
        }
    }

    /** A number from least to most, but once in a while one that is out of its range. */
    private int number(int least, int most) {
        if (numbers.nextInt(strangeOf) == 0) {
            return numbers.nextBoolean() ? STRANGE[numbers.nextInt(STRANGE.length)]
                    : numbers.nextBoolean() ? least - 1 : most + 1;
        }
        return most < least ? least : least + numbers.nextInt(most - least + 1);
    }

    private int point() {
        return number(0, plain.countOfPoints() - 1);
    }

    private int passedDay() {
        int day = plain.day();
        return numbers.nextInt(3) == 0 ? number(0, day - 1) : number(Math.max(0, day - 6), day - 1);
    }

    /** Mostly one day for a while, so that the calls of the settlement meet on it. */
    private int dayToSettle() {
        if (numbers.nextInt(8) == 0) {
            daySettled = passedDay();
        }
        return daySettled;
    }

    private int shown(int point) {
        if (point < 0 || point >= plain.countOfPoints() || numbers.nextInt(12) == 0) {
            return number(0, 1100000);
        }
        int size = (int) Math.pow(10, plain.digitsOf(point));
        int[] steps = {3, 40, 300, 2000, size};
        int above = number(0, steps[numbers.nextInt(steps.length)]);
        return numbers.nextInt(strangeOf) == 0 ? above : Math.floorMod(plain.shownOf(point) + above, size);
    }

    private int code() {
        int number = numbers.nextInt(4) == 0 ? numbers.nextInt(22139006) : numbers.nextInt(300);
        return number(0, 9) == 3 ? 97 * number + number(0, 97) : 97 * number + number % 97;
    }

    private String[] next() {
        if (plain.countOfPoints() == 0 && numbers.nextInt(3) > 0) {
            return addPoint();
        }
        switch (numbers.nextInt(15)) {
            case 0:
                return numbers.nextInt(6) == 0 ? addPoint() : pass();
            case 1:
                return numbers.nextInt(2) == 0 ? weather() : pass();
            case 2:
            case 3:
                return read();
            case 4:
                return numbers.nextInt(3) == 0 ? exchange() : ofPoint("confirm");
            case 5:
                return change();
            case 6:
                return numbers.nextInt(3) == 0 ? ofPoint("object") : ofPoint("reverse");
            case 7:
                return tariff();
            case 8:
                return ofPoint("bill");
            case 9:
                return numbers.nextInt(2) == 0 ? credit() : ofPoint("account");
            case 10:
                return numbers.nextInt(4) == 0 ? income() : inflow();
            case 11:
                return numbers.nextInt(4) == 0 ? settle() : settled();
            case 12:
                return volume();
            case 13:
                return of();
            default:
                return word();
        }
    }

    private static String[] answers(String call, java.util.function.Supplier<Object> got,
            java.util.function.Supplier<Object> want) {
        return new String[] {call, Check.answer(got), Check.answer(want)};
    }

    private static String text(String name, int... arguments) {
        return name + java.util.Arrays.toString(arguments);
    }

    private String[] addPoint() {
        int a = number(0, 3);
        int b = number(0, 2);
        int c = number(3, 6);
        int d = number(1, 10);
        int e = number(0, 999);
        return answers(text("point", a, b, c, d, e), () -> house.point(a, b, c, d, e), () -> plain.point(a, b, c, d, e));
    }

    private String[] pass() {
        int days = number(1, mostDays);
        return answers(text("pass", days), () -> house.pass(days), () -> plain.pass(days));
    }

    private String[] weather() {
        int from = number(plain.day(), plain.day() + 20);
        int to = number(from, from + 10);
        int degrees = number(0, 30);
        return answers(text("weather", from, to, degrees), () -> house.weather(from, to, degrees),
                () -> plain.weather(from, to, degrees));
    }

    private String[] read() {
        int point = point();
        int shown = shown(point);
        return answers(text("read", point, shown), () -> house.read(point, shown), () -> plain.read(point, shown));
    }

    private String[] exchange() {
        int point = point();
        int shown = shown(point);
        int digits = number(3, 6);
        int multiplier = number(1, 10);
        return answers(text("exchange", point, shown, digits, multiplier),
                () -> house.exchange(point, shown, digits, multiplier),
                () -> plain.exchange(point, shown, digits, multiplier));
    }

    private String[] ofPoint(String name) {
        int point = point();
        switch (name) {
            case "confirm":
                return answers(text(name, point), () -> house.confirm(point), () -> plain.confirm(point));
            case "object":
                return answers(text(name, point), () -> house.object(point), () -> plain.object(point));
            case "reverse":
                return answers(text(name, point), () -> house.reverse(point), () -> plain.reverse(point));
            case "bill":
                return answers(text(name, point), () -> house.bill(point), () -> plain.bill(point));
            default:
                return answers(text(name, point), () -> house.account(point), () -> plain.account(point));
        }
    }

    private String[] change() {
        int point = point();
        int supplier = number(0, 3);
        int day = number(plain.day() + 1, plain.day() + 12);
        return answers(text("change", point, supplier, day), () -> house.change(point, supplier, day),
                () -> plain.change(point, supplier, day));
    }

    private String[] tariff() {
        int supplier = number(0, 3);
        int first = number(0, 100);
        int block = number(0, 60);
        int rest = number(0, 100);
        return answers(text("tariff", supplier, first, block, rest), () -> {
            house.tariff(supplier, first, block, rest);
            return "told";
        }, () -> {
            plain.tariff(supplier, first, block, rest);
            return "told";
        });
    }

    private String[] credit() {
        int point = point();
        int code = code();
        return answers(text("credit", point, code), () -> house.credit(point, code), () -> plain.credit(point, code));
    }

    private String[] income() {
        int supplier = number(0, 3);
        return answers(text("income", supplier), () -> house.income(supplier), () -> plain.income(supplier));
    }

    private String[] inflow() {
        int day = dayToSettle();
        int units = numbers.nextInt(4) == 0 ? number(0, 1000000000) : number(0, 400);
        return answers(text("inflow", day, units), () -> house.inflow(day, units), () -> plain.inflow(day, units));
    }

    private String[] settle() {
        int day = dayToSettle();
        return answers(text("settle", day), () -> house.settle(day), () -> plain.settle(day));
    }

    private String[] settled() {
        int day = dayToSettle();
        int supplier = number(0, 3);
        return answers(text("settled", day, supplier), () -> house.settled(day, supplier),
                () -> plain.settled(day, supplier));
    }

    private String[] volume() {
        int point = point();
        int day = passedDay();
        if (numbers.nextBoolean()) {
            return answers(text("volume", point, day), () -> house.volume(point, day), () -> plain.volume(point, day));
        }
        return answers(text("volumeAnew", point, day), () -> house.volumeAnew(point, day),
                () -> plain.volume(point, day));
    }

    private String[] of() {
        int point = point();
        int what = number(0, 4);
        return answers(text("of", point, what), () -> house.of(point, what), () -> plain.of(point, what));
    }

    private String[] word() {
        int point = point();
        int day = passedDay();
        int place = number(0, 13);
        return answers(text("word", point, day, place), () -> house.word(point, day, place),
                () -> plain.word(point, day, place));
    }
}
