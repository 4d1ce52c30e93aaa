import java.util.ArrayList;
import java.util.List;
import java.util.function.ToLongFunction;

/** Terms, Exceptions: the first line that applies decides, and a call that throws changes nothing. */
public final class RefusedTest {
    private record Refused(String call, String due, ToLongFunction<MeterHouse> made) {
    }

    private static final String NO_SUCH = "throws.IndexOutOfBoundsException";
    private static final String OUT_OF_RANGE = "throws.IllegalArgumentException";
    private static final String NOT_NOW = "throws.IllegalStateException";

    private static final List<Refused> CALLS = new ArrayList<>();

    public static void main(String[] args) {
        listCalls();
        String due = whatFollows(house());
        for (Refused refused : CALLS) {
            MeterHouse house = house();
            String got = Check.answer(() -> refused.made().applyAsLong(house));
            Check.dueText(refused.call(), got, refused.due());
            Check.dueText("what follows " + refused.call(), whatFollows(house), due);
        }
        Check.end();
    }

    private static void add(String call, String due, ToLongFunction<MeterHouse> made) {
        CALLS.add(new Refused(call, due, made));
    }

    /**
     * Today is 12. Point 0 was read today and has a change told for 14; point 1 has a doubt of 11;
     * point 2 had a change that was called wrong; point 3 had one that can be; the day 3 is settled
     * three times, the day 4 once; there are 8 points.
     */
    private static MeterHouse house() {
        MeterHouse house = new MeterHouse();
        for (int point = 0; point < 8; point++) {
            house.point(point % 4, point % 3, 3 + point % 4, 1 + point, 100);
        }
        for (int supplier = 0; supplier < 4; supplier++) {
            house.tariff(supplier, 3 + supplier, 12, 7 + supplier);
        }
        house.weather(0, 20, 4);
        house.change(2, 0, 5);
        house.change(3, 0, 6);
        house.pass(7);
        house.inflow(3, 500);
        house.inflow(4, 600);
        house.inflow(5, 700);
        house.settle(3);
        house.settle(3);
        house.settle(3);
        house.settle(4);
        house.reverse(2);
        house.bill(0);
        house.bill(3);
        house.credit(1, 98);
        house.pass(4);
        house.read(1, 9000);
        house.pass(1);
        house.read(0, 160);
        house.change(0, 3, 14);
        return house;
    }

    private static void listCalls() {
        listPoints();
        listReadings();
        listSuppliers();
        listBills();
        listSettlement();
        listWhatThereIs();
    }

    private static void listPoints() {
        add("point(4, 3, 2, 0, -1)", NO_SUCH, h -> h.point(4, 3, 2, 0, -1));
        add("point(0, 3, 3, 1, 0)", OUT_OF_RANGE, h -> h.point(0, 3, 3, 1, 0));
        add("point(0, 0, 2, 1, 0)", OUT_OF_RANGE, h -> h.point(0, 0, 2, 1, 0));
        add("point(0, 0, 3, 11, 0)", OUT_OF_RANGE, h -> h.point(0, 0, 3, 11, 0));
        add("point(0, 0, 3, 1, 1000)", OUT_OF_RANGE, h -> h.point(0, 0, 3, 1, 1000));
        add("point(0, 0, 3, 1, 0)", NOT_NOW, h -> h.point(0, 0, 3, 1, 0));
        add("weather(11, 20, 9)", NO_SUCH, h -> h.weather(11, 20, 9));
        add("weather(12, 1000, 9)", NO_SUCH, h -> h.weather(12, 1000, 9));
        add("weather(20, 19, 31)", NO_SUCH, h -> h.weather(20, 19, 31));
        add("weather(20, 19, 9)", NO_SUCH, h -> h.weather(20, 19, 9));
        add("weather(12, 999, -1)", OUT_OF_RANGE, h -> h.weather(12, 999, -1));
        add("weather(12, 20, 31)", OUT_OF_RANGE, h -> h.weather(12, 20, 31));
        add("pass(0)", OUT_OF_RANGE, h -> h.pass(0));
        add("pass(61)", OUT_OF_RANGE, h -> h.pass(61));
    }

    private static void listReadings() {
        add("read(8, -1)", NO_SUCH, h -> h.read(8, -1));
        add("read(0, 1000)", OUT_OF_RANGE, h -> h.read(0, 1000));
        add("read(1, 10000)", OUT_OF_RANGE, h -> h.read(1, 10000));
        add("read(0, 170)", NOT_NOW, h -> h.read(0, 170));
        add("read(0, 999), which would be doubted", NOT_NOW, h -> h.read(0, 999));
        add("read(1, -1)", OUT_OF_RANGE, h -> h.read(1, -1));
        add("confirm(-1)", NO_SUCH, h -> h.confirm(-1));
        add("confirm(0)", NOT_NOW, h -> h.confirm(0));
        add("exchange(8, 0, 0, 0)", NO_SUCH, h -> h.exchange(8, 0, 0, 0));
        add("exchange(1, 10000, 3, 1)", OUT_OF_RANGE, h -> h.exchange(1, 10000, 3, 1));
        add("exchange(1, 200, 7, 1)", OUT_OF_RANGE, h -> h.exchange(1, 200, 7, 1));
        add("exchange(1, 200, 2, 1)", OUT_OF_RANGE, h -> h.exchange(1, 200, 2, 1));
        add("exchange(1, 200, 3, 0)", OUT_OF_RANGE, h -> h.exchange(1, 200, 3, 0));
        add("exchange(1, -1, 3, 1)", OUT_OF_RANGE, h -> h.exchange(1, -1, 3, 1));
        add("exchange(1, 200, 3, 11)", OUT_OF_RANGE, h -> h.exchange(1, 200, 3, 11));
        add("exchange(0, 1000, 3, 1)", OUT_OF_RANGE, h -> h.exchange(0, 1000, 3, 1));
        add("exchange(0, 170, 3, 1)", NOT_NOW, h -> h.exchange(0, 170, 3, 1));
    }

    private static void listSuppliers() {
        add("change(8, 1, 13)", NO_SUCH, h -> h.change(8, 1, 13));
        add("change(0, 4, 13)", NO_SUCH, h -> h.change(0, 4, 13));
        add("change(1, 4, 13)", NO_SUCH, h -> h.change(1, 4, 13));
        add("change(1, -1, 13)", NO_SUCH, h -> h.change(1, -1, 13));
        add("change(1, 2, 12)", NO_SUCH, h -> h.change(1, 2, 12));
        add("change(0, 1, 12)", NO_SUCH, h -> h.change(0, 1, 12));
        add("change(1, 2, 1000)", NO_SUCH, h -> h.change(1, 2, 1000));
        add("change(0, 1, 13)", NOT_NOW, h -> h.change(0, 1, 13));
        add("change(1, 1, 13)", NOT_NOW, h -> h.change(1, 1, 13));
        add("object(8)", NO_SUCH, h -> h.object(8));
        add("object(3)", NOT_NOW, h -> h.object(3));
        add("reverse(8)", NO_SUCH, h -> h.reverse(8));
        add("reverse(0)", NOT_NOW, h -> h.reverse(0));
        add("reverse(1)", NOT_NOW, h -> h.reverse(1));
        add("reverse(2)", NOT_NOW, h -> h.reverse(2));
        add("tariff(4, 101, 0, 0)", NO_SUCH, h -> tariff(h, 4, 101, 0, 0));
        add("tariff(0, 101, 0, 0)", OUT_OF_RANGE, h -> tariff(h, 0, 101, 0, 0));
        add("tariff(0, 100, 1001, 0)", OUT_OF_RANGE, h -> tariff(h, 0, 100, 1001, 0));
        add("tariff(0, -1, 0, 0)", OUT_OF_RANGE, h -> tariff(h, 0, -1, 0, 0));
        add("tariff(0, 100, -1, 0)", OUT_OF_RANGE, h -> tariff(h, 0, 100, -1, 0));
        add("tariff(0, 100, 0, 101)", OUT_OF_RANGE, h -> tariff(h, 0, 100, 0, 101));
        add("tariff(0, 100, 0, -1)", OUT_OF_RANGE, h -> tariff(h, 0, 100, 0, -1));
    }

    private static long tariff(MeterHouse house, int supplier, int first, int block, int rest) {
        house.tariff(supplier, first, block, rest);
        return 0;
    }

    private static void listBills() {
        add("bill(8)", NO_SUCH, h -> h.bill(8));
        add("credit(8, 99)", NO_SUCH, h -> h.credit(8, 99));
        add("credit(8, 196)", NO_SUCH, h -> h.credit(8, 196));
        add("credit(0, 99)", OUT_OF_RANGE, h -> h.credit(0, 99));
        add("credit(0, -98)", OUT_OF_RANGE, h -> h.credit(0, -98));
        add("credit(0, -1)", OUT_OF_RANGE, h -> h.credit(0, -1));
        add("credit(0, the most)", OUT_OF_RANGE, h -> h.credit(0, Integer.MAX_VALUE));
        add("credit(1, 98)", NOT_NOW, h -> h.credit(1, 98));
        add("credit(0, 98)", NOT_NOW, h -> h.credit(0, 98));
        add("account(8)", NO_SUCH, h -> h.account(8));
        add("income(4)", NO_SUCH, h -> h.income(4));
    }

    private static void listSettlement() {
        add("inflow(12, -1)", NO_SUCH, h -> h.inflow(12, -1));
        add("inflow(5, -1)", OUT_OF_RANGE, h -> h.inflow(5, -1));
        add("inflow(3, 1000000001)", OUT_OF_RANGE, h -> h.inflow(3, 1000000001));
        add("inflow(4, 1)", NOT_NOW, h -> h.inflow(4, 1));
        add("inflow(-1, 1)", NO_SUCH, h -> h.inflow(-1, 1));
        add("inflow(3, 1)", NOT_NOW, h -> h.inflow(3, 1));
        add("settle(12)", NO_SUCH, h -> h.settle(12));
        add("settle(-1)", NO_SUCH, h -> h.settle(-1));
        add("settle(3)", NOT_NOW, h -> h.settle(3));
        add("settled(12, 0)", NO_SUCH, h -> h.settled(12, 0));
        add("settled(3, 4)", NO_SUCH, h -> h.settled(3, 4));
    }

    private static void listWhatThereIs() {
        add("volume(0, 12)", NO_SUCH, h -> h.volume(0, 12));
        add("volume(8, 0)", NO_SUCH, h -> h.volume(8, 0));
        add("volumeAnew(8, 0)", NO_SUCH, h -> h.volumeAnew(8, 0));
        add("volumeAnew(0, 12)", NO_SUCH, h -> h.volumeAnew(0, 12));
        add("of(8, 5)", NO_SUCH, h -> h.of(8, 5));
        add("of(0, 5)", OUT_OF_RANGE, h -> h.of(0, 5));
        add("word(0, 12, 0)", NO_SUCH, h -> h.word(0, 12, 0));
        add("word(0, 0, -1)", NO_SUCH, h -> h.word(0, 0, -1));
    }

    /** What the house tells, and what it answers to calls that each hidden part of it decides. */
    private static String whatFollows(MeterHouse house) {
        StringBuilder told = new StringBuilder();
        tellAll(house, told);
        next(told, () -> house.inflow(5, 701));
        next(told, () -> house.settle(4));
        next(told, () -> house.settle(5));
        next(told, () -> house.confirm(1));
        next(told, () -> house.read(2, 105));
        next(told, () -> house.read(3, 999));
        next(told, () -> house.reverse(3));
        next(told, () -> house.change(1, 3, 16));
        next(told, () -> house.change(2, 3, 999));
        next(told, () -> house.object(2));
        next(told, () -> house.credit(0, 196));
        next(told, () -> house.credit(0, 0));
        next(told, () -> house.bill(3));
        next(told, () -> house.pass(8));
        next(told, () -> house.read(0, 170));
        next(told, () -> house.confirm(3));
        next(told, () -> house.weather(20, 999, 10));
        for (int point = 0; point < 8; point++) {
            int billed = point;
            next(told, () -> house.bill(billed));
        }
        tellAll(house, told);
        return told.toString();
    }

    private static void next(StringBuilder told, java.util.function.Supplier<Object> made) {
        told.append(Check.answer(made)).append(' ');
    }

    private static void tellAll(MeterHouse house, StringBuilder told) {
        for (int point = 0; point < 8; point++) {
            for (int what = 0; what < 5; what++) {
                told.append(house.of(point, what)).append(' ');
            }
            told.append(house.account(point)).append(' ');
            for (int day : new int[] {0, 5, 10, 11}) {
                told.append(house.volume(point, day)).append(' ');
                told.append(house.volumeAnew(point, day)).append(' ');
            }
        }
        for (int supplier = 0; supplier < 4; supplier++) {
            told.append(house.income(supplier)).append(' ');
            for (int day = 3; day < 6; day++) {
                told.append(house.settled(day, supplier)).append(' ');
            }
        }
    }
}
