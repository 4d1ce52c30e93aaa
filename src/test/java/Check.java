import java.util.function.Supplier;

/** Compares answers with those that are due, and ends a test with exit code 1 if one was wrong. */
final class Check {
    private static int compared = 0;
    private static int wrong = 0;
    private static String sentence = "";

    private Check() {
    }

    /** A test of one sentence of the document; what is wrong in it is told with the sentence. */
    static void that(String said, Runnable test) {
        sentence = said + ": ";
        String end = outcome(test);
        // a test that ends early has left something uncompared
        dueText("the test", end, "nothing");
        sentence = "";
    }

    static void due(String call, long got, long want) {
        dueText(call, Long.toString(got), Long.toString(want));
    }

    static void dueText(String call, String got, String want) {
        compared++;
        if (!got.equals(want)) {
            wrong++;
            System.out.println(sentence + call + " answered " + got + ", due is " + want);
        }
    }

    /** The call throws an IndexOutOfBoundsException. */
    static void noSuch(String call, Runnable made) {
        dueText(call, outcome(made), "throws.IndexOutOfBoundsException");
    }

    /** The call throws an IllegalArgumentException. */
    static void outOfRange(String call, Runnable made) {
        dueText(call, outcome(made), "throws.IllegalArgumentException");
    }

    /** The call throws an IllegalStateException. */
    static void notNow(String call, Runnable made) {
        dueText(call, outcome(made), "throws.IllegalStateException");
    }

    static String outcome(Runnable made) {
        return answer(() -> {
            made.run();
            return "nothing";
        });
    }

    /** The answer of a call as a text, or the very class that it throws. */
    static String answer(Supplier<Object> made) {
        try {
            return String.valueOf(made.get());
        } catch (RuntimeException thrown) {
            return "throws." + thrown.getClass().getSimpleName();
        }
    }

    /** The word of a day, sign by sign up to the first blank. */
    static String word(MeterHouse house, int point, int day) {
        StringBuilder signs = new StringBuilder();
        for (int place = 0; place < 40; place++) {
            char sign = house.word(point, day, place);
            if (sign == ' ') {
                break;
            }
            signs.append(sign);
        }
        return signs.toString();
    }

    static void end() {
        System.out.println(compared + " compared, " + wrong + " wrong");
        if (wrong != 0 || compared == 0) {
            System.exit(1);
        }
    }
}
