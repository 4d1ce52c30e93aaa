import java.util.ArrayList;
import java.util.HashMap;
import java.util.HashSet;
import java.util.List;
import java.util.Map;
import java.util.Set;

/**
 * The document once more, written to be compared with: it keeps what was told as lists and finds
 * every answer from these anew.
 */
final class PlainHouse {
    private record Reading(int day, long use) {
    }

    private record Change(int day, int supplier, boolean wrong) {
    }

    private record Told(int day, int first, int block, int rest) {
    }

    private static final class PlainPoint {
        int first;
        int kind;
        int firstSupplier;
        int digits;
        int multiplier;
        int shown;
        List<Reading> readings = new ArrayList<>();
        int doubtDay = -1;
        int doubtShown;
        List<Change> made = new ArrayList<>();
        Change ahead;
        Map<Integer, long[]> billed = new HashMap<>();
        long account;
    }

    private final int[] degrees = new int[1000];
    private final List<PlainPoint> points = new ArrayList<>();
    private final List<List<Told>> tariffs = new ArrayList<>();
    private final long[] incomes = new long[4];
    private final Set<Integer> codes = new HashSet<>();
    private final Map<Integer, Integer> inflows = new HashMap<>();
    private final Map<Integer, List<long[]>> runs = new HashMap<>();
    private int today = 0;

    PlainHouse() {
        java.util.Arrays.fill(degrees, 10);
        for (int supplier = 0; supplier < 4; supplier++) {
            tariffs.add(new ArrayList<>(List.of(new Told(0, 0, 0, 0))));
        }
    }

    private static void noSuchUnless(boolean holds) {
        if (!holds) {
            throw new IndexOutOfBoundsException();
        }
    }

    private static void argumentUnless(boolean holds) {
        if (!holds) {
            throw new IllegalArgumentException();
        }
    }

    private static void stateUnless(boolean holds) {
        if (!holds) {
            throw new IllegalStateException();
        }
    }

    private static boolean in(int number, int least, int most) {
        return least <= number && number <= most;
    }

    private static int shows(int digits) {
        return Integer.parseInt("9".repeat(digits));
    }

    private PlainPoint at(int point) {
        noSuchUnless(in(point, 0, points.size() - 1));
        return points.get(point);
    }

    int point(int supplier, int kind, int digits, int multiplier, int shown) {
        noSuchUnless(in(supplier, 0, 3));
        argumentUnless(in(kind, 0, 2) && in(digits, 3, 6) && in(multiplier, 1, 10) && in(shown, 0, shows(digits)));
        stateUnless(points.size() < 8);
        PlainPoint made = new PlainPoint();
        made.first = today;
        made.kind = kind;
        made.firstSupplier = supplier;
        made.digits = digits;
        made.multiplier = multiplier;
        made.shown = shown;
        made.readings.add(new Reading(today, 0));
        points.add(made);
        return points.size() - 1;
    }

    int weather(int from, int to, int told) {
        noSuchUnless(in(from, today, 999) && in(to, from, 999));
        argumentUnless(in(told, 0, 30));
        int others = 0;
        for (int day = from; day <= to; day++) {
            others += degrees[day] == told ? 0 : 1;
            degrees[day] = told;
        }
        return others;
    }

    int pass(int days) {
        argumentUnless(in(days, 1, 60));
        stateUnless(today + days <= 900);
        today += days;
        for (PlainPoint point : points) {
            if (point.ahead != null && point.ahead.day() <= today) {
                point.made.add(point.ahead);
                point.ahead = null;
            }
        }
        return today;
    }

    private long weight(PlainPoint point, int day) {
        return new long[] {10, 10 + degrees[day], 5 + 3 * degrees[day]}[point.kind];
    }

    private long weights(PlainPoint point, int from, int end) {
        long all = 0;
        for (int day = from; day < end; day++) {
            all += weight(point, day);
        }
        return all;
    }

    private Reading latest(PlainPoint point) {
        return point.readings.get(point.readings.size() - 1);
    }

    private long use(PlainPoint point, int shown) {
        int above = shown >= point.shown ? shown - point.shown : shown - (point.shown - shows(point.digits) - 1);
        return (long) above * point.multiplier;
    }

    private int taken(PlainPoint point, int day, int shown) {
        long use = use(point, shown);
        point.readings.add(new Reading(day, use));
        point.shown = shown;
        return (int) use;
    }

    int read(int number, int shown) {
        PlainPoint point = at(number);
        argumentUnless(in(shown, 0, shows(point.digits)));
        stateUnless(latest(point).day() != today);
        if (use(point, shown) > 20 * weights(point, latest(point).day(), today)) {
            point.doubtDay = today;
            point.doubtShown = shown;
            return -1;
        }
        return taken(point, today, shown);
    }

    private boolean canConfirm(PlainPoint point) {
        return point.doubtDay >= 0 && point.readings.stream().noneMatch(r -> r.day() >= point.doubtDay);
    }

    int confirm(int number) {
        PlainPoint point = at(number);
        stateUnless(canConfirm(point));
        return taken(point, point.doubtDay, point.doubtShown);
    }

    int exchange(int number, int last, int digits, int multiplier) {
        PlainPoint point = at(number);
        argumentUnless(in(last, 0, shows(point.digits)) && in(digits, 3, 6) && in(multiplier, 1, 10));
        stateUnless(latest(point).day() != today);
        int use = taken(point, today, last);
        point.digits = digits;
        point.multiplier = multiplier;
        point.shown = 0;
        return use;
    }

    private int supplierOn(PlainPoint point, int day) {
        int supplier = point.firstSupplier;
        for (Change change : point.made) {
            if (change.day() <= day && !change.wrong()) {
                supplier = change.supplier();
            }
        }
        return supplier;
    }

    int change(int number, int supplier, int day) {
        noSuchUnless(in(number, 0, points.size() - 1) && in(supplier, 0, 3) && in(day, today + 1, 999));
        PlainPoint point = at(number);
        stateUnless(point.ahead == null && supplierOn(point, day) != supplier);
        point.ahead = new Change(day, supplier, false);
        return supplierOn(point, today);
    }

    int object(int number) {
        PlainPoint point = at(number);
        stateUnless(point.ahead != null);
        int day = point.ahead.day();
        point.ahead = null;
        return day;
    }

    int reverse(int number) {
        PlainPoint point = at(number);
        stateUnless(point.ahead == null && !point.made.isEmpty());
        Change latest = point.made.get(point.made.size() - 1);
        stateUnless(!latest.wrong());
        int[] before = new int[today + 1];
        for (int day = point.first; day <= today; day++) {
            before[day] = supplierOn(point, day);
        }
        point.made.set(point.made.size() - 1, new Change(latest.day(), latest.supplier(), true));
        int others = 0;
        for (int day = point.first; day <= today; day++) {
            others += before[day] == supplierOn(point, day) ? 0 : 1;
        }
        return others;
    }

    void tariff(int supplier, int first, int block, int rest) {
        noSuchUnless(in(supplier, 0, 3));
        argumentUnless(in(first, 0, 100) && in(block, 0, 1000) && in(rest, 0, 100));
        tariffs.get(supplier).add(new Told(today, first, block, rest));
    }

    private long cost(int supplier, int day, long units) {
        List<Told> told = tariffs.get(supplier);
        int place = told.size() - 1;
        while (told.get(place).day() > day) {
            place--;
        }
        Told tariff = told.get(place);
        return units <= tariff.block() ? units * tariff.first()
                : (long) tariff.block() * tariff.first() + (units - tariff.block()) * tariff.rest();
    }

    long bill(int number) {
        PlainPoint point = at(number);
        long before = point.account;
        for (int day = point.first; day < today; day++) {
            long[] billed = point.billed.computeIfAbsent(day, made -> new long[4]);
            int own = supplierOn(point, day);
            for (int supplier = 0; supplier < 4; supplier++) {
                if (supplier != own) {
                    incomes[supplier] -= billed[supplier];
                    point.account -= billed[supplier];
                    billed[supplier] = 0;
                }
            }
            long more = cost(own, day, units(point, day)) - billed[own];
            if (more < 0 || day >= today - 100) {
                incomes[own] += more;
                point.account += more;
                billed[own] += more;
            }
        }
        return point.account - before;
    }

    int credit(int number, int code) {
        PlainPoint point = at(number);
        argumentUnless(code >= 0 && 97 * (code / 97) + code / 97 % 97 == code);
        stateUnless(codes.add(code));
        point.account -= code / 97 % 1000;
        return code / 97 % 1000;
    }

    long account(int number) {
        return at(number).account;
    }

    long income(int supplier) {
        noSuchUnless(in(supplier, 0, 3));
        return incomes[supplier];
    }

    int inflow(int day, int units) {
        noSuchUnless(in(day, 0, today - 1));
        argumentUnless(in(units, 0, 1000000000));
        stateUnless(!runs.containsKey(day));
        Integer before = inflows.put(day, units);
        return before == null ? 0 : before;
    }

    /** Parts by the greatest rests, found one by one. */
    private static long[] parts(long amount, long[] weights) {
        long all = 0;
        for (long weight : weights) {
            all += weight;
        }
        long[] parts = new long[weights.length];
        if (all == 0) {
            return parts;
        }
        List<Integer> order = new ArrayList<>();
        long left = amount;
        for (int place = 0; place < weights.length; place++) {
            parts[place] = amount * weights[place] / all;
            left -= parts[place];
            order.add(place);
        }
        long of = all;
        order.sort((a, b) -> Long.compare(amount * weights[b] % of, amount * weights[a] % of));
        for (int place = 0; place < left; place++) {
            parts[order.get(place)]++;
        }
        return parts;
    }

    int settle(int day) {
        noSuchUnless(in(day, 0, today - 1));
        List<long[]> made = runs.getOrDefault(day, new ArrayList<>());
        stateUnless(made.size() < 3);
        long[] volumes = new long[4];
        for (PlainPoint point : points) {
            if (point.first <= day) {
                volumes[supplierOn(point, day)] += units(point, day);
            }
        }
        long loss = inflows.getOrDefault(day, 0) - volumes[0] - volumes[1] - volumes[2] - volumes[3];
        long[] parts = parts(Math.abs(loss), volumes);
        long[] run = new long[4];
        for (int supplier = 0; supplier < 4; supplier++) {
            run[supplier] = volumes[supplier] + Long.signum(loss) * parts[supplier];
        }
        made.add(run);
        runs.put(day, made);
        return made.size();
    }

    int settled(int day, int supplier) {
        noSuchUnless(in(day, 0, today - 1) && in(supplier, 0, 3));
        List<long[]> made = runs.get(day);
        return made == null ? 0 : (int) made.get(made.size() - 1)[supplier];
    }

    private long units(PlainPoint point, int day) {
        for (int place = 1; place < point.readings.size(); place++) {
            int from = point.readings.get(place - 1).day();
            Reading reading = point.readings.get(place);
            if (day >= from && day < reading.day()) {
                long[] weights = new long[reading.day() - from];
                for (int other = from; other < reading.day(); other++) {
                    weights[other - from] = weight(point, other);
                }
                return parts(reading.use(), weights)[day - from];
            }
        }
        return pace(point) * weight(point, day) / 1000;
    }

    private long pace(PlainPoint point) {
        int place = point.readings.size() - 1;
        return place == 0 ? 1000 : latest(point).use() * 1000
                / weights(point, point.readings.get(place - 1).day(), latest(point).day());
    }

    int volume(int number, int day) {
        PlainPoint point = at(number);
        noSuchUnless(in(day, point.first, today - 1));
        return (int) units(point, day);
    }

    int of(int number, int what) {
        PlainPoint point = at(number);
        argumentUnless(in(what, 0, 4));
        int[] told = {(int) pace(point), latest(point).day(), point.readings.size(), supplierOn(point, today),
            canConfirm(point) ? point.doubtDay : -1};
        return told[what];
    }

    char word(int number, int day, int place) {
        PlainPoint point = at(number);
        noSuchUnless(in(day, point.first, today - 1) && place >= 0);
        String word = (day < latest(point).day() ? "m" : "e") + units(point, day) + "/s" + supplierOn(point, day);
        return place < word.length() ? word.charAt(place) : ' ';
    }

    /** What the point shows at its latest reading, to choose the next one by. */
    int shownOf(int number) {
        return points.get(number).shown;
    }

    int digitsOf(int number) {
        return points.get(number).digits;
    }

    int countOfPoints() {
        return points.size();
    }

    int day() {
        return today;
    }
}
