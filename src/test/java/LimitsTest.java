import java.util.Arrays;
import java.util.Random;

/** A call throws what the document names for it, and nothing else, with any arguments in any state. */
public final class LimitsTest {
    private static final int[] ARGUMENTS = {Integer.MIN_VALUE, Integer.MIN_VALUE + 1, -1000000000, -1001, -97, -2,
        -1, 0, 1, 2, 3, 4, 5, 6, 7, 8, 9, 10, 11, 59, 60, 61, 96, 97, 98, 99, 100, 101, 899, 900, 901, 998, 999,
        1000, 1001, 3999, 4000, 4001, 999999, 1000000, 999999999, 1000000000, 1000000001, Integer.MAX_VALUE - 1,
        Integer.MAX_VALUE};
    private static final String NO_SUCH = "throws.IndexOutOfBoundsException";
    private static final String OUT_OF_RANGE = "throws.IllegalArgumentException";
    private static final String NOT_NOW = "throws.IllegalStateException";
    /** The throws clause of each call: no such (n), out of range (r), a wrong state (s). */
    private static final String[] CLAUSES = {"nrs", "nr", "rs", "nrs", "ns", "nrs", "ns", "ns", "ns", "nr", "nrs",
        "n", "n", "nrs", "ns", "n", "n", "n", "nr", "n", "n"};

    private final Random numbers;
    private final MeterHouse house = new MeterHouse();

    private LimitsTest(int seed) {
        numbers = new Random(seed);
    }

    public static void main(String[] args) {
        for (int seed = 0; seed < 300; seed++) {
            LimitsTest test = new LimitsTest(seed);
            for (int call = 0; call < 2000; call++) {
                test.callOne();
            }
        }
        manyCodes();
        Check.end();
    }

    private int any() {
        return ARGUMENTS[numbers.nextInt(ARGUMENTS.length)];
    }

    private int below(int end) {
        return numbers.nextInt(8) == 0 ? any() : numbers.nextInt(end);
    }

    private void callOne() {
        int which = numbers.nextInt(CLAUSES.length);
        int point = below(8);
        int supplier = below(4);
        int day = below(900);
        String answer = Check.answer(() -> answerOf(which, point, supplier, day));
        if (answer.startsWith("throws.")) {
            String call = "call " + which + " " + Arrays.toString(new int[] {point, supplier, day});
            Check.dueText(call + " " + answer, isNamed(answer, CLAUSES[which]) ? "named" : "not named", "named");
        }
    }

    private static boolean isNamed(String answer, String clause) {
        return answer.equals(NO_SUCH) && clause.contains("n")
                || answer.equals(OUT_OF_RANGE) && clause.contains("r")
                || answer.equals(NOT_NOW) && clause.contains("s");
    }

    private Object answerOf(int which, int point, int supplier, int day) {
        switch (which) {
            case 0: return house.point(supplier, below(3), 3 + below(4), 1 + below(10), below(1000));
            case 1: return house.weather(day, below(1000), below(31));
            case 2: return house.pass(below(20));
            case 3: return house.read(point, below(1000));
            case 4: return house.confirm(point);
            case 5: return house.exchange(point, below(1000), 3 + below(4), 1 + below(10));
            case 6: return house.change(point, supplier, below(1000));
            case 7: return house.object(point);
            case 8: return house.reverse(point);
            case 9:
                house.tariff(supplier, below(101), below(1001), below(101));
                return "told";
            case 10: return house.credit(point, numbers.nextBoolean() ? any() : codeOf(numbers.nextInt(22139006)));
            case 11: return house.account(point);
            case 12: return house.income(supplier);
            case 13: return house.inflow(day, below(1000000001));
            case 14: return house.settle(day);
            case 15: return house.settled(day, supplier);
            case 16: return house.volume(point, day);
            case 17: return house.volumeAnew(point, day);
            case 18: return house.of(point, below(5));
            case 19: return house.bill(point);
            default: return house.word(point, below(20), below(14));
        }
    }

    private static int codeOf(int number) {
        return 97 * number + number % 97;
    }

    /** What is answered behind the 512th call is free, but it is an answer or a named exception. */
    private static void manyCodes() {
        MeterHouse house = new MeterHouse();
        house.point(0, 0, 3, 1, 0);
        for (int number = 1; number < 512; number++) {
            Check.due("credit of the number " + number, house.credit(0, codeOf(number)), number % 1000);
        }
        for (int number = 512; number < 1500; number++) {
            int code = codeOf(number);
            String answer = Check.answer(() -> house.credit(0, code));
            boolean free = !answer.startsWith("throws.") || isNamed(answer, "nrs");
            Check.dueText("credit " + code + " behind the 512th call: " + answer, free ? "free" : "wrong", "free");
        }
    }
}
