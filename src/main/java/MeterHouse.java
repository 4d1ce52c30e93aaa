/**
 * A house of meters: registers, readings, volumes of days, suppliers, tariffs, bills, credit and
 * the settlement of days.
 *
 * <p>Days are numbered from 0. The words "ahead of" mean earlier, "behind" mean later. An object
 * is used for at most 512 calls; what later calls answer is free, but they do not throw anything
 * that the calls do not name.
 */
public final class MeterHouse {

    /** There is none. */
    public static final int NONE = -1;

    /** Classes of points. */
    public static final int FLAT = 0, HOUSE = 1, SHOP = 2;

    private static final int POINTS = 8;
    private static final int SUPPLIERS = 4;
    private static final int DAYS = 1000;
    private static final int LAST_TODAY = 900;
    private static final int MOST_DAYS_TO_PASS = 60;
    private static final int FIRST_DEGREES = 10;
    private static final int MOST_DEGREES = 30;
    private static final int LEAST_DIGITS = 3;
    private static final int MOST_DIGITS = 6;
    private static final int MOST_MULTIPLIER = 10;
    private static final int PLAUSIBLE_USE_OF_A_WEIGHT = 20;
    private static final int FIRST_PACE = 1000;
    private static final int PACE_UNIT = 1000;
    private static final int MOST_CENTS_OF_A_UNIT = 100;
    private static final int MOST_UNITS_OF_A_BLOCK = 1000;
    private static final int DAYS_TO_BILL_MORE = 100;
    private static final int CODE_FACTOR = 97;
    private static final int CREDIT_END = 1000;
    private static final int MOST_CODES = 512;
    private static final int MOST_INFLOW = 1000000000;
    private static final int MOST_RUNS = 3;

    private final Sky sky = new Sky();
    private final Division spread = new Division(DAYS);
    private final Tariffs tariffs = new Tariffs();
    private final Row incomes = new Row(SUPPLIERS);
    private final Settlement settlement = new Settlement();
    private final Row codes = new Row(MOST_CODES);
    private final Point[] points = new Point[POINTS];
    private int codesTaken = 0;
    private int pointsAdded = 0;
    private int today = 0;

    /** Makes a house without points; today is the day 0. */
    public MeterHouse() {
    }

    // ---- points, weather

    /** Adds a point; returns its number. */
    public int point(int supplier, int kind, int digits, int multiplier, int shown)
            throws IndexOutOfBoundsException, IllegalArgumentException, IllegalStateException {
        needSupplier(supplier);
        if (kind < FLAT || kind > SHOP || !isMeter(digits, multiplier)) {
            throw new IllegalArgumentException("no such class, digits or multiplier");
        }
        Meter meter = new Meter(digits, multiplier, shown);
        if (!meter.canShow(shown)) {
            throw new IllegalArgumentException("the digits cannot show that");
        }
        if (pointsAdded < 0 || pointsAdded >= points.length) {
            throw new IllegalStateException("there are 8 points");
        }
        Readings readings = new Readings(meter, kind, today, sky, spread);
        points[pointsAdded] = new Point(today, readings, new Supply(today, supplier), new Bills(incomes));
        pointsAdded++;
        return pointsAdded - 1;
    }

    /** Tells the degrees of some days; returns how many days have others by that. */
    public int weather(int from, int to, int degrees)
            throws IndexOutOfBoundsException, IllegalArgumentException {
        if (from < today || to < from || to >= DAYS) {
            throw new IndexOutOfBoundsException("no such days");
        }
        if (!isWithin(degrees, MOST_DEGREES)) {
            throw new IllegalArgumentException("no such degrees");
        }
        return sky.tell(from, to, degrees);
    }

    /** Lets days pass; returns today. */
    public int pass(int days) throws IllegalArgumentException, IllegalStateException {
        if (days < 1 || days > MOST_DAYS_TO_PASS) {
            throw new IllegalArgumentException("1 to 60 days pass");
        }
        if (today + days > LAST_TODAY) {
            throw new IllegalStateException("today would be above 900");
        }
        for (int passed = 0; passed < days; passed++) {
            beginNextDay();
        }
        return today;
    }

    // ---- readings, exchanges

    /** Reads a meter today; returns the use by it, NONE if it is doubted. */
    public int read(int point, int shown)
            throws IndexOutOfBoundsException, IllegalArgumentException, IllegalStateException {
        Readings readings = pointAt(point).readings;
        if (!readings.canShow(shown)) {
            throw new IllegalArgumentException("the digits cannot show that");
        }
        needNoReadingToday(readings);
        if (!readings.isPlausible(today, shown)) {
            readings.doubt(today, shown);
            return NONE;
        }
        return (int) readings.take(today, shown);
    }

    /** Confirms the reading that is doubted; returns the use by it. */
    public int confirm(int point) throws IndexOutOfBoundsException, IllegalStateException {
        Readings readings = pointAt(point).readings;
        int day = readings.doubtedDay();
        if (day == NONE) {
            throw new IllegalStateException("no reading can be confirmed");
        }
        return (int) readings.take(day, readings.doubtedShown());
    }

    /** Exchanges a meter today; returns the use by the last reading of the old one. */
    public int exchange(int point, int last, int digits, int multiplier)
            throws IndexOutOfBoundsException, IllegalArgumentException, IllegalStateException {
        Readings readings = pointAt(point).readings;
        if (!readings.canShow(last) || !isMeter(digits, multiplier)) {
            throw new IllegalArgumentException("the old digits cannot show that, or no such new meter");
        }
        needNoReadingToday(readings);
        long use = readings.take(today, last);
        readings.setMeter(new Meter(digits, multiplier, 0));
        return (int) use;
    }

    // ---- suppliers, tariffs

    /** Tells a change of the supplier; returns the supplier of today. */
    public int change(int point, int supplier, int day)
            throws IndexOutOfBoundsException, IllegalStateException {
        Supply supply = pointAt(point).supply;
        needSupplier(supplier);
        if (day <= today || day >= DAYS) {
            throw new IndexOutOfBoundsException("no such day for a change");
        }
        if (supply.toldDay() != NONE || supply.holderOn(today) == supplier) {
            throw new IllegalStateException("a change is told, or it would have that supplier");
        }
        supply.tell(day, supplier);
        return supply.holderOn(today);
    }

    /** Objects to the change that is told; returns the day for which it was told. */
    public int object(int point) throws IndexOutOfBoundsException, IllegalStateException {
        Supply supply = pointAt(point).supply;
        if (supply.toldDay() == NONE) {
            throw new IllegalStateException("no change is told");
        }
        return supply.drop();
    }

    /** Calls the latest change wrong; returns how many days have another supplier by that. */
    public int reverse(int point) throws IndexOutOfBoundsException, IllegalStateException {
        Supply supply = pointAt(point).supply;
        if (supply.toldDay() != NONE || !supply.hasChangeToUndo()) {
            throw new IllegalStateException("no change to call wrong, or a change is told");
        }
        return supply.undo(today);
    }

    /** Tells the tariff of a supplier from today on. */
    public void tariff(int supplier, int first, int block, int rest)
            throws IndexOutOfBoundsException, IllegalArgumentException {
        needSupplier(supplier);
        if (!isWithin(first, MOST_CENTS_OF_A_UNIT) || !isWithin(block, MOST_UNITS_OF_A_BLOCK)
                || !isWithin(rest, MOST_CENTS_OF_A_UNIT)) {
            throw new IllegalArgumentException("no such cents or block");
        }
        tariffs.tell(supplier, today, first, block, rest);
    }

    // ---- bills, credit

    /** Bills a point; returns by how much its account is more. */
    public long bill(int point) throws IndexOutOfBoundsException {
        Point billed = pointAt(point);
        long more = 0;
        for (int day = billed.first; day < today; day++) {
            int supplier = billed.supply.holderOn(day);
            long cost = tariffs.cost(supplier, day, billed.readings.unitsOf(day));
            boolean mayBeMore = today - day <= DAYS_TO_BILL_MORE;
            more += billed.bills.putRight(day, supplier, cost, mayBeMore);
        }
        billed.bills.owe(more);
        return more;
    }

    /** Takes a code of credit; returns the cents. */
    public int credit(int point, int code)
            throws IndexOutOfBoundsException, IllegalArgumentException, IllegalStateException {
        Bills bills = pointAt(point).bills;
        int number = code / CODE_FACTOR;
        if (code < 0 || code % CODE_FACTOR != number % CODE_FACTOR) {
            throw new IllegalArgumentException("no code");
        }
        // more codes than calls are never kept: a full book takes no code any more
        if (isCodeTaken(code) || codesTaken >= MOST_CODES) {
            throw new IllegalStateException("the code was taken");
        }
        codes.set(codesTaken, code);
        codesTaken++;
        int cents = number % CREDIT_END;
        bills.owe(-cents);
        return cents;
    }

    /** Returns the cents that a point owes. */
    public long account(int point) throws IndexOutOfBoundsException {
        return pointAt(point).bills.owed();
    }

    /** Returns the cents that a supplier has. */
    public long income(int supplier) throws IndexOutOfBoundsException {
        needSupplier(supplier);
        return incomes.get(supplier);
    }

    // ---- settlement

    /** Tells the inflow of a day; returns the one before. */
    public int inflow(int day, int units)
            throws IndexOutOfBoundsException, IllegalArgumentException, IllegalStateException {
        needPassedDay(0, day);
        if (!isWithin(units, MOST_INFLOW)) {
            throw new IllegalArgumentException("no such inflow");
        }
        if (settlement.runsOf(day) > 0) {
            throw new IllegalStateException("the day was settled");
        }
        return (int) settlement.tell(day, units);
    }

    /** Settles a day; returns how many runs it has then. */
    public int settle(int day) throws IndexOutOfBoundsException, IllegalStateException {
        needPassedDay(0, day);
        if (settlement.runsOf(day) >= MOST_RUNS) {
            throw new IllegalStateException("the day has 3 runs");
        }
        settlement.clearVolumes();
        for (int number = 0; number < points.length; number++) {
            Point counted = points[number];
            if (counted != null && counted.first <= day) {
                settlement.addVolume(counted.supply.holderOn(day), counted.readings.unitsOf(day));
            }
        }
        settlement.run(day);
        return settlement.runsOf(day);
    }

    /** Returns what a supplier has of a day by its latest run. */
    public int settled(int day, int supplier) throws IndexOutOfBoundsException {
        needPassedDay(0, day);
        needSupplier(supplier);
        return (int) settlement.resultOf(day, supplier);
    }

    // ---- what there is

    /** Returns the volume of a day. */
    public int volume(int point, int day) throws IndexOutOfBoundsException {
        Point asked = pointAt(point);
        needPassedDay(asked.first, day);
        return (int) asked.readings.unitsOf(day);
    }

    /** Returns the volume of a day, found anew from the readings that were taken. */
    public int volumeAnew(int point, int day) throws IndexOutOfBoundsException {
        Point asked = pointAt(point);
        needPassedDay(asked.first, day);
        return (int) asked.readings.unitsAnewOf(day);
    }

    /** Tells of a point: its pace, latest day, readings, supplier, day that is doubted. */
    public int of(int point, int what) throws IndexOutOfBoundsException, IllegalArgumentException {
        Point asked = pointAt(point);
        switch (what) {
            case 0:
                return (int) asked.readings.pace();
            case 1:
                return asked.readings.latestDay();
            case 2:
                return asked.readings.count();
            case 3:
                return asked.supply.holderOn(today);
            case 4:
                return asked.readings.doubtedDay();
            default:
                throw new IllegalArgumentException("nothing like that is told");
        }
    }

    /** Returns a sign of the word of a day; a blank behind its end. */
    public char word(int point, int day, int place) throws IndexOutOfBoundsException {
        Point asked = pointAt(point);
        needPassedDay(asked.first, day);
        if (place < 0) {
            throw new IndexOutOfBoundsException("no such place");
        }
        StringBuilder signs = new StringBuilder();
        signs.append(asked.readings.isSpread(day) ? 'm' : 'e');
        signs.append((int) asked.readings.unitsOf(day));
        signs.append("/s");
        signs.append(asked.supply.holderOn(day));
        return place < signs.length() ? signs.charAt(place) : ' ';
    }

    // ---- what the calls share

    private Point pointAt(int number) {
        Point found = number >= 0 && number < points.length ? points[number] : null;
        if (found == null) {
            throw new IndexOutOfBoundsException("no such point");
        }
        return found;
    }

    private void needSupplier(int supplier) {
        if (supplier < 0 || supplier >= SUPPLIERS) {
            throw new IndexOutOfBoundsException("no such supplier");
        }
    }

    private void needPassedDay(int first, int day) {
        if (day < first || day >= today) {
            throw new IndexOutOfBoundsException("no such day");
        }
    }

    private void needNoReadingToday(Readings readings) {
        if (readings.latestDay() == today) {
            throw new IllegalStateException("a reading of today was taken");
        }
    }

    private boolean isWithin(int number, int most) {
        return number >= 0 && number <= most;
    }

    private boolean isMeter(int digits, int multiplier) {
        return digits >= LEAST_DIGITS && digits <= MOST_DIGITS
                && multiplier >= 1 && multiplier <= MOST_MULTIPLIER;
    }

    private boolean isCodeTaken(int code) {
        for (int place = 0; place < codesTaken; place++) {
            if (codes.get(place) == code) {
                return true;
            }
        }
        return false;
    }

    private void beginNextDay() {
        today++;
        tariffs.begin(today);
        for (int number = 0; number < points.length; number++) {
            Point there = points[number];
            if (there != null) {
                there.supply.begin(today);
            }
        }
    }

    /** Numbers in their places; a place that it does not have holds 0 and keeps nothing. */
    private static final class Row {
        private final long[] cells;

        Row(int length) {
            cells = new long[length > 0 ? length : 0];
        }

        long get(int place) {
            return place >= 0 && place < cells.length ? cells[place] : 0;
        }

        void set(int place, long number) {
            if (place >= 0 && place < cells.length) {
                cells[place] = number;
            }
        }

        void add(int place, long number) {
            set(place, get(place) + number);
        }
    }

    /** The degrees of the days, and the weights that they make. */
    private static final class Sky {
        private final Row degrees = new Row(DAYS);

        Sky() {
            for (int day = 0; day < DAYS; day++) {
                degrees.set(day, FIRST_DEGREES);
            }
        }

        /** Returns how many days have others by that. */
        int tell(int from, int to, int told) {
            int others = 0;
            for (int day = from; day <= to && day < DAYS; day++) {
                if (degrees.get(day) != told) {
                    degrees.set(day, told);
                    others++;
                }
            }
            return others;
        }

        long weight(int kind, int day) {
            switch (kind) {
                case FLAT:
                    return 10;
                case HOUSE:
                    return 10 + degrees.get(day);
                default:
                    return 5 + 3 * degrees.get(day);
            }
        }

        /** All weights of the days up to an end that is not one of them. */
        long weights(int kind, int from, int end) {
            long all = 0;
            for (int day = from; day < end; day++) {
                all += weight(kind, day);
            }
            return all;
        }
    }

    /**
     * Divides an amount by weights, each part rounded down; what is left goes by ones to those with
     * the greatest rests, of the same to the earlier ones. It is kept to be used again.
     */
    private static final class Division {
        private final Row weights;
        private final Row parts;
        private final Row rests;

        Division(int places) {
            weights = new Row(places);
            parts = new Row(places);
            rests = new Row(places);
        }

        void setWeight(int place, long weight) {
            weights.set(place, weight);
        }

        void addWeight(int place, long weight) {
            weights.add(place, weight);
        }

        long weightOf(int place) {
            return weights.get(place);
        }

        long partOf(int place) {
            return parts.get(place);
        }

        /** All weights of the places up to an end that is not one of them. */
        long all(int from, int end) {
            long sum = 0;
            for (int place = from; place < end; place++) {
                sum += weights.get(place);
            }
            return sum;
        }

        /** Without weights every part is 0. */
        void divide(long amount, int from, int end) {
            long all = all(from, end);
            long left = all > 0 ? amount : 0;
            for (int place = from; place < end; place++) {
                long product = amount * weights.get(place);
                long part = all > 0 ? product / all : 0;
                parts.set(place, part);
                rests.set(place, all > 0 ? product % all : 0);
                left -= part;
            }
            giveLeft(left, all, from, end);
        }

        private void giveLeft(long left, long all, int from, int end) {
            long open = left;
            long rest = greatestRestBelow(all, from, end);
            // each round is of one rest, so there are at most as many as places
            for (int round = from; round < end && open > 0; round++) {
                for (int place = from; place < end && open > 0; place++) {
                    if (rests.get(place) == rest) {
                        parts.add(place, 1);
                        open--;
                    }
                }
                rest = greatestRestBelow(rest, from, end);
            }
        }

        private long greatestRestBelow(long bound, int from, int end) {
            long greatest = NONE;
            for (int place = from; place < end; place++) {
                long rest = rests.get(place);
                if (rest < bound && rest > greatest) {
                    greatest = rest;
                }
            }
            return greatest;
        }
    }

    /** A register that rolls over behind what its digits can show. */
    private static final class Meter {
        private final long size;
        private final int multiplier;
        private int shown;

        Meter(int digits, int multiplier, int shown) {
            long numbers = 1;
            for (int digit = 0; digit < digits; digit++) {
                numbers *= 10;
            }
            this.size = numbers;
            this.multiplier = multiplier;
            this.shown = shown;
        }

        boolean canShow(int number) {
            return number >= 0 && number < size;
        }

        long useAt(int number) {
            long above = (long) number - shown;
            return (above < 0 ? above + size : above) * multiplier;
        }

        void setShown(int number) {
            shown = number;
        }
    }

    /** The readings of a point, and the volumes of its days by them. */
    private static final class Readings {
        private final int kind;
        private final int first;
        private final Sky sky;
        private final Division spread;
        private final Row volumes = new Row(DAYS);
        /** Of each day with a reading behind the first one 1 more than its use, of others 0. */
        private final Row uses = new Row(DAYS);
        private Meter meter;
        private int latest;
        private int taken = 1;
        private long pace = FIRST_PACE;
        private int doubtDay = NONE;
        private int doubtShown = 0;

        Readings(Meter meter, int kind, int first, Sky sky, Division spread) {
            this.meter = meter;
            this.kind = kind;
            this.first = first;
            this.sky = sky;
            this.spread = spread;
            this.latest = first;
        }

        boolean canShow(int number) {
            return meter.canShow(number);
        }

        void setMeter(Meter other) {
            meter = other;
        }

        long pace() {
            return pace;
        }

        int latestDay() {
            return latest;
        }

        int count() {
            return taken;
        }

        boolean isPlausible(int day, int number) {
            return meter.useAt(number) <= PLAUSIBLE_USE_OF_A_WEIGHT * sky.weights(kind, latest, day);
        }

        void doubt(int day, int number) {
            doubtDay = day;
            doubtShown = number;
        }

        /** The day of the reading that can be confirmed, or NONE. */
        int doubtedDay() {
            return doubtDay > latest ? doubtDay : NONE;
        }

        int doubtedShown() {
            return doubtShown;
        }

        /** Takes a reading; returns the use by it. */
        long take(int day, int number) {
            long use = meter.useAt(number);
            spreadOver(use, latest, day);
            for (int spreadDay = latest; spreadDay < day; spreadDay++) {
                volumes.set(spreadDay, spread.partOf(spreadDay));
            }
            pace = paceBy(use, latest, day);
            uses.set(day, use + 1);
            meter.setShown(number);
            latest = day;
            taken++;
            return use;
        }

        boolean isSpread(int day) {
            return day < latest;
        }

        long unitsOf(int day) {
            return isSpread(day) ? volumes.get(day) : estimate(pace, day);
        }

        /** The same as unitsOf, by the readings alone. */
        long unitsAnewOf(int day) {
            int before = readingUpTo(day);
            int behind = readingBehind(day);
            if (behind != NONE) {
                spreadOver(uses.get(behind) - 1, before, behind);
                return spread.partOf(day);
            }
            if (before == first) {
                return estimate(FIRST_PACE, day);
            }
            long paceAnew = paceBy(uses.get(before) - 1, readingUpTo(before - 1), before);
            return estimate(paceAnew, day);
        }

        private void spreadOver(long use, int from, int end) {
            for (int day = from; day < end; day++) {
                spread.setWeight(day, sky.weight(kind, day));
            }
            spread.divide(use, from, end);
        }

        private long paceBy(long use, int from, int end) {
            long all = sky.weights(kind, from, end);
            return all > 0 ? use * PACE_UNIT / all : 0;
        }

        private long estimate(long byPace, int day) {
            return byPace * sky.weight(kind, day) / PACE_UNIT;
        }

        private int readingUpTo(int day) {
            int found = day;
            while (found > first && uses.get(found) == 0) {
                found--;
            }
            return found;
        }

        private int readingBehind(int day) {
            for (int behind = day + 1; behind < DAYS; behind++) {
                if (uses.get(behind) != 0) {
                    return behind;
                }
            }
            return NONE;
        }
    }

    /** Which supplier a point has on each day up to today, and the changes of that. */
    private static final class Supply {
        private final Row holders = new Row(DAYS);
        private int toldDay = NONE;
        private int toldSupplier = 0;
        /** The day of the latest change that was made; NONE too, once that was called wrong. */
        private int madeDay = NONE;

        Supply(int first, int supplier) {
            holders.set(first, supplier);
        }

        int holderOn(int day) {
            return (int) holders.get(day);
        }

        int toldDay() {
            return toldDay;
        }

        void tell(int day, int supplier) {
            toldDay = day;
            toldSupplier = supplier;
        }

        /** Returns the day for which it was told. */
        int drop() {
            int day = toldDay;
            toldDay = NONE;
            return day;
        }

        void begin(int day) {
            if (day == toldDay) {
                holders.set(day, toldSupplier);
                madeDay = day;
                toldDay = NONE;
            } else {
                holders.set(day, holders.get(day - 1));
            }
        }

        boolean hasChangeToUndo() {
            return madeDay != NONE;
        }

        /** Returns how many days have another supplier by that. */
        int undo(int today) {
            int from = madeDay;
            long before = holders.get(from - 1);
            for (int day = from; day <= today; day++) {
                holders.set(day, before);
            }
            madeDay = NONE;
            return today - from + 1;
        }
    }

    /** The tariffs of the suppliers for each day up to today. */
    private static final class Tariffs {
        private final Row firsts = new Row(SUPPLIERS * DAYS);
        private final Row blocks = new Row(SUPPLIERS * DAYS);
        private final Row rests = new Row(SUPPLIERS * DAYS);

        void tell(int supplier, int day, long first, long block, long rest) {
            int place = supplier * DAYS + day;
            firsts.set(place, first);
            blocks.set(place, block);
            rests.set(place, rest);
        }

        /** Each supplier has the tariff of the day ahead, until another one is told. */
        void begin(int day) {
            for (int supplier = 0; supplier < SUPPLIERS; supplier++) {
                int ahead = supplier * DAYS + day - 1;
                tell(supplier, day, firsts.get(ahead), blocks.get(ahead), rests.get(ahead));
            }
        }

        long cost(int supplier, int day, long units) {
            int place = supplier * DAYS + day;
            long inBlock = Math.min(units, blocks.get(place));
            return inBlock * firsts.get(place) + (units - inBlock) * rests.get(place);
        }
    }

    /** What was billed for the days of a point, and its account. */
    private static final class Bills {
        private final Row incomes;
        private final Row cents = new Row(DAYS);
        /** Who billed them: one supplier alone, as a bill takes back what others have. */
        private final Row billers = new Row(DAYS);
        private long owed = 0;

        Bills(Row incomes) {
            this.incomes = incomes;
        }

        long owed() {
            return owed;
        }

        void owe(long more) {
            owed += more;
        }

        /** Makes what was billed for a day what it costs; returns by how much that is more. */
        long putRight(int day, int supplier, long cost, boolean mayBeMore) {
            long back = billers.get(day) == supplier ? 0 : takeBack(day);
            long more = cost - cents.get(day);
            if (more > 0 && !mayBeMore) {
                more = 0;
            }
            billers.set(day, supplier);
            cents.add(day, more);
            incomes.add(supplier, more);
            return more - back;
        }

        /** Returns what is taken back. */
        private long takeBack(int day) {
            long back = cents.get(day);
            incomes.add((int) billers.get(day), -back);
            cents.set(day, 0);
            return back;
        }
    }

    /** The inflow of the days, their runs, and what the suppliers have by the latest ones. */
    private static final class Settlement {
        private final Row inflows = new Row(DAYS);
        private final Row runs = new Row(DAYS);
        private final Row results = new Row(SUPPLIERS * DAYS);
        private final Division losses = new Division(SUPPLIERS);

        int runsOf(int day) {
            return (int) runs.get(day);
        }

        /** Returns the inflow before. */
        long tell(int day, long units) {
            long before = inflows.get(day);
            inflows.set(day, units);
            return before;
        }

        void clearVolumes() {
            for (int supplier = 0; supplier < SUPPLIERS; supplier++) {
                losses.setWeight(supplier, 0);
            }
        }

        void addVolume(int supplier, long units) {
            losses.addWeight(supplier, units);
        }

        /** Settles a day by the volumes that were added. */
        void run(int day) {
            long loss = inflows.get(day) - losses.all(0, SUPPLIERS);
            losses.divide(Math.abs(loss), 0, SUPPLIERS);
            for (int supplier = 0; supplier < SUPPLIERS; supplier++) {
                long part = losses.partOf(supplier);
                long signed = loss < 0 ? -part : part;
                results.set(supplier * DAYS + day, losses.weightOf(supplier) + signed);
            }
            runs.add(day, 1);
        }

        long resultOf(int day, int supplier) {
            return results.get(supplier * DAYS + day);
        }
    }

    /** A point: its first day, and what belongs to it. */
    private static final class Point {
        final int first;
        final Readings readings;
        final Supply supply;
        final Bills bills;

        Point(int first, Readings readings, Supply supply, Bills bills) {
            this.first = first;
            this.readings = readings;
            this.supply = supply;
            this.bills = bills;
        }
    }
}
