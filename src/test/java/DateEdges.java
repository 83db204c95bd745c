/** The sentences of the promises 1 to 13 that name an edge. */
final class DateEdges {
    private static final int LEAST = Integer.MIN_VALUE;
    private static final int MOST = Integer.MAX_VALUE;
    private static final int[] LENGTHS = {31, 28, 31, 30, 31, 30, 31, 31, 30, 31, 30, 31};

    static void all() {
        newObject();
        date();
        ofDay();
        day();
        part();
        move();
        moveOut();
        with();
        withNone();
        adjust();
        weekday();
        weekdayOut();
        inMonth();
        inMonthOut();
        atYear();
        order();
        between();
    }

    private static Yearwheel at(int year, int month, int day) {
        Yearwheel wheel = new Yearwheel();
        wheel.date(0, year, month, day);
        return wheel;
    }

    private static void newObject() {
        Sentence told = Sentence.of(1, "Creates a wheel with the told first dates, spans, months, times, lengths and "
                + "moments.");
        for (int slot = 0; slot < 6; slot++) {
            Yearwheel wheel = new Yearwheel();
            told.date(1970, 1, 1, 0, wheel, slot);
        }
        for (int slot = 0; slot < 4; slot++) {
            Yearwheel wheel = new Yearwheel();
            told.span(0, 0, 0, 0, wheel, slot);
            told.month(1970, 1, 31, wheel, slot);
            told.time(0, 0, 0, 0, 0, wheel, slot);
            told.length(0, 0, 0, wheel, slot);
            told.moment(1970, 1, 1, 0, 0, wheel, slot);
        }
        told.onlySlots(6, (w, slot) -> w.day(slot)).onlySlots(4, (w, slot) -> w.spanPart(slot, 'd'))
                .onlySlots(4, (w, slot) -> w.monthPart(slot, 'm')).onlySlots(4, (w, slot) -> w.timePart(slot, 'n'))
                .onlySlots(4, (w, slot) -> w.lengthPart(slot, 'n')).onlySlots(4, (w, slot) -> w.timeOf(slot, 0));
    }

    private static void date() {
        Sentence month = Sentence.of(2, "its month, 1 to 12");
        month.takenNumbers((w, n) -> w.date(0, 2023, (int) n, 1), 1, 12);
        month.refusedNumbers(Check.ARGUMENT, (w, n) -> w.date(0, 2023, (int) n, 1), 0, 13, -1, -12, LEAST, MOST);
        Sentence.of(2, Sentence.NO_SLOT).onlySlots(6, (w, slot) -> w.date(slot, 2023, 1, 1));
        Sentence none = Sentence.of(2, "Throws `IllegalArgumentException` if there is no such date, or year");
        for (int each = 1; each <= 12; each++) {
            int of = each;
            int last = LENGTHS[each - 1];
            none.takenNumbers((w, n) -> w.date(0, 2023, of, (int) n), 1, last);
            none.refusedNumbers(Check.ARGUMENT, (w, n) -> w.date(0, 2023, of, (int) n), 0, last + 1, -1, LEAST, MOST);
        }
        none.takenNumbers((w, n) -> w.date(0, (int) n, 2, 29), -9996, -400, -4, 0, 4, 1996, 2000, 2024, 9996);
        none.refusedNumbers(Check.ARGUMENT, (w, n) -> w.date(0, (int) n, 2, 29), -9999, -100, -1, 1, 100, 1900, 2023,
                2100, 9999);
        none.refusedNumbers(Check.ARGUMENT, (w, n) -> w.date(0, (int) n, 2, 30), -400, 0, 2000, 2024);
        none.takenNumbers((w, n) -> w.date(0, (int) n, 1, 1), -9999, 9999);
        none.refusedNumbers(Check.ARGUMENT, (w, n) -> w.date(0, (int) n, 12, 31), -10000, 10000, LEAST, MOST);
    }

    private static void ofDay() {
        Sentence.of(3, Sentence.NO_SLOT).onlySlots(6, (w, slot) -> w.ofDay(slot, 1));
        Sentence told = Sentence.of(3, Sentence.ANOTHER_YEAR);
        Yearwheel wheel = new Yearwheel();
        told.same("the first", -9999, wheel.ofDay(0, -4371587));
        told.date(-9999, 1, 1, wheel.day(0), wheel, 0);
        told.same("the last", 9999, wheel.ofDay(1, 2932896));
        told.date(9999, 12, 31, wheel.day(1), wheel, 1);
        told.refusedNumbers(Check.UNSUPPORTED, (w, n) -> w.ofDay(0, n), -4371588, 2932897, Long.MIN_VALUE,
                Long.MAX_VALUE, LEAST, MOST, 1L << 32, 1L << 62, -(1L << 32), Long.MIN_VALUE + 719528);
    }

    private static void day() {
        Sentence.of(4, Sentence.NO_SLOT).onlySlots(6, (w, slot) -> w.day(slot));
    }

    private static void part() {
        Sentence told = Sentence.of(5, "'y' its year, 'm' its month, 'd' its day of the month, 'n' its day of the "
                + "year, from 1, 'w' its day of the week, 'l' how many days the month has, 'L' how many the year has, "
                + "'b' 1 if that is a long one, otherwise 0");
        int[][] dates = {{-9999, 1, 1, 1, 1, 31, 365, 0}, {9999, 12, 31, 365, 5, 31, 365, 0},
                {2020, 12, 31, 366, 4, 31, 366, 1}, {2021, 1, 1, 1, 5, 31, 365, 0}, {1900, 2, 28, 59, 3, 28, 365, 0},
                {1900, 3, 1, 60, 4, 31, 365, 0}, {0, 2, 29, 60, 2, 29, 366, 1}, {0, 3, 1, 61, 3, 31, 366, 1},
                {-1, 12, 31, 365, 5, 31, 365, 0}, {0, 1, 1, 1, 6, 31, 366, 1}, {1970, 1, 1, 1, 4, 31, 365, 0},
                {2024, 2, 25, 56, 7, 29, 366, 1}, {2024, 2, 26, 57, 1, 29, 366, 1}, {2024, 4, 30, 121, 2, 30, 366, 1}};
        for (int[] each : dates) {
            Yearwheel wheel = at(each[0], each[1], each[2]);
            for (int what = 0; what < 8; what++) {
                told.same(each[0] + "-" + each[1] + "-" + each[2] + " " + "ymdnwlLb".charAt(what), each[what],
                        wheel.part(0, "ymdnwlLb".charAt(what)));
            }
        }
        Sentence.of(5, Sentence.NO_SLOT).onlySlots(6, (w, slot) -> w.part(slot, 'y'));
        Sentence.of(5, "Throws `IllegalArgumentException` if there is no such thing")
                .onlySigns("ymdnwlLb", (w, sign) -> w.part(0, sign));
    }

    private static void move() {
        Sentence units = Sentence.of(6, "'d', 'w', 'm' or 'y'");
        Yearwheel wheel = at(2024, 1, 31);
        units.date(2024, 2, 1, wheel.move(0, 'd', 1, 1), wheel, 1);
        units.date(2024, 2, 7, wheel.move(0, 'w', 1, 1), wheel, 1);
        units.date(2024, 2, 29, wheel.move(0, 'm', 1, 1), wheel, 1);
        units.date(2025, 1, 31, wheel.move(0, 'y', 1, 1), wheel, 1);
        Sentence amount = Sentence.of(6, "by how many, -1000000 to 1000000");
        Yearwheel ends = Check.stirred();
        amount.same("the most days", 1000000, new Yearwheel().move(0, 'd', 1000000, 0));
        amount.same("the least days", -1000000, new Yearwheel().move(0, 'd', -1000000, 0));
        amount.date(9166, 5, 9, ends.move(1, 'w', 1000000, 0), ends, 0);
        amount.date(-9166, 8, 25, ends.move(2, 'w', -1000000, 0), ends, 0);
        for (char unit : "dwmy".toCharArray()) {
            amount.refusedNumbers(Check.ARGUMENT, (w, n) -> w.move(3, unit, (int) n, 0), 1000001, -1000001, LEAST,
                    MOST);
        }
        Sentence.of(6, Sentence.NO_SLOT_FOR_ANY).onlySlots(6, (w, slot) -> w.move(slot, 'd', 1, 0))
                .onlySlots(6, (w, slot) -> w.move(0, 'd', 1, slot));
        Sentence none = Sentence.of(6, "Throws `IllegalArgumentException` if there is no such unit, or the number is "
                + "out of range");
        none.onlySigns("dwmy", (w, sign) -> w.move(0, sign, 1, 0));
        none.refusedNumbers(Check.ARGUMENT, (w, n) -> w.move(0, 'd', (int) n, 0), 1000001, -1000001);
    }

    private static void moveOut() {
        Sentence told = Sentence.of(6, Sentence.ANOTHER_YEAR);
        Object[][] last = {{'d', 9999, 12, 30}, {'w', 9999, 12, 24}, {'m', 9999, 11, 30}, {'y', 9998, 12, 31}};
        for (Object[] each : last) {
            char unit = (char) each[0];
            Yearwheel wheel = at((int) each[1], (int) each[2], (int) each[3]);
            told.holds("to the last month", wheel.move(0, unit, 1, 1) >= 2932895);
            wheel.move(0, 'd', 1, 0);
            told.refusedOn("behind the last by " + unit, Check.UNSUPPORTED, wheel, w -> w.move(0, unit, 1, 1));
        }
        Object[][] first = {{'d', -9999, 1, 2}, {'w', -9999, 1, 8}, {'m', -9999, 2, 1}, {'y', -9998, 1, 1}};
        for (Object[] each : first) {
            char unit = (char) each[0];
            Yearwheel wheel = at((int) each[1], (int) each[2], (int) each[3]);
            told.date(-9999, 1, 1, wheel.move(0, unit, -1, 1), wheel, 1);
            wheel.move(0, 'd', -1, 0);
            told.refusedOn("ahead of the first by " + unit, Check.UNSUPPORTED, wheel, w -> w.move(0, unit, -1, 1));
        }
        for (char unit : "wmy".toCharArray()) {
            told.refusedNumbers(Check.UNSUPPORTED, (w, n) -> w.move(0, unit, (int) n, 0), 1000000, -1000000);
        }
    }

    private static void with() {
        Sentence told = Sentence.of(7, "'d' another day of the month, 'n' of the year, 'm' another month, 'y' another "
                + "year");
        Yearwheel wheel = at(2023, 1, 31);
        told.date(2023, 1, 1, wheel.with(0, 'd', 1, 1), wheel, 1);
        told.date(2023, 1, 31, wheel.with(0, 'd', 31, 1), wheel, 1);
        told.date(2023, 1, 1, wheel.with(0, 'n', 1, 1), wheel, 1);
        told.date(2023, 12, 31, wheel.with(0, 'n', 365, 1), wheel, 1);
        told.date(2023, 1, 31, wheel.with(0, 'm', 1, 1), wheel, 1);
        told.date(2023, 12, 31, wheel.with(0, 'm', 12, 1), wheel, 1);
        told.date(-9999, 1, 31, wheel.with(0, 'y', -9999, 1), wheel, 1);
        told.date(9999, 1, 31, wheel.with(0, 'y', 9999, 1), wheel, 1);
        Sentence.of(7, Sentence.NO_SLOT_FOR_ANY).onlySlots(6, (w, slot) -> w.with(slot, 'd', 1, 0))
                .onlySlots(6, (w, slot) -> w.with(0, 'd', 1, slot));
    }

    private static void withNone() {
        Sentence none = Sentence.of(7, "Throws `IllegalArgumentException` if there is no such thing, date, or year");
        none.onlySigns("dnmy", (w, sign) -> w.with(0, sign, 1, 0));
        for (int month = 1; month <= 12; month++) {
            Yearwheel wheel = at(2023, month, 15);
            int last = LENGTHS[month - 1];
            none.date(2023, month, last, wheel.with(0, 'd', last, 1), wheel, 1);
            none.refusedOn("a day too many", Check.ARGUMENT, wheel, w -> w.with(0, 'd', last + 1, 1));
            none.refusedOn("a day 0", Check.ARGUMENT, wheel, w -> w.with(0, 'd', 0, 1));
        }
        none.takenNumbers((w, n) -> w.with(0, 'd', (int) n, 0), 1, 29);
        none.refusedNumbers(Check.ARGUMENT, (w, n) -> w.with(0, 'd', (int) n, 1), 0, 30, -1, LEAST, MOST);
        none.takenNumbers((w, n) -> w.with(0, 'n', (int) n, 0), 1, 366);
        none.refusedNumbers(Check.ARGUMENT, (w, n) -> w.with(0, 'n', (int) n, 1), 0, 367, -1, LEAST, MOST);
        none.takenNumbers((w, n) -> w.with(4, 'n', (int) n, 0), 1, 365);
        none.refusedNumbers(Check.ARGUMENT, (w, n) -> w.with(4, 'n', (int) n, 1), 0, 366);
        none.takenNumbers((w, n) -> w.with(0, 'm', (int) n, 0), 1, 12);
        none.refusedNumbers(Check.ARGUMENT, (w, n) -> w.with(0, 'm', (int) n, 1), 0, 13, -1, LEAST, MOST);
        none.takenNumbers((w, n) -> w.with(0, 'y', (int) n, 0), -9999, 0, 9999);
        none.refusedNumbers(Check.ARGUMENT, (w, n) -> w.with(0, 'y', (int) n, 1), -10000, 10000, LEAST, MOST);
        // Within the first and the last month of all, too.
        none.refused("a day 32 of the last month", Check.ARGUMENT, w -> w.with(2, 'd', 32, 1));
        none.refused("a day 366 of the last year", Check.ARGUMENT, w -> w.with(2, 'n', 366, 1));
        none.refused("a day 0 of the first month", Check.ARGUMENT, w -> w.with(1, 'd', 0, 1));
        none.refused("a day 0 of the first year", Check.ARGUMENT, w -> w.with(1, 'n', 0, 1));
    }

    private static void adjust() {
        Sentence told = Sentence.of(8, "Lets a slot become the first, or last, day of the month, or year, of a date, "
                + "or of the next one.");
        int[][] dates = {{2024, 2, 1}, {2024, 2, 15}, {2024, 2, 29}};
        for (int[] each : dates) {
            Yearwheel wheel = at(each[0], each[1], each[2]);
            told.date(2024, 2, 1, wheel.adjust(0, 'f', 1), wheel, 1);
            told.date(2024, 2, 29, wheel.adjust(0, 'l', 1), wheel, 1);
            told.date(2024, 3, 1, wheel.adjust(0, 'n', 1), wheel, 1);
            told.date(2024, 1, 1, wheel.adjust(0, 'F', 1), wheel, 1);
            told.date(2024, 12, 31, wheel.adjust(0, 'L', 1), wheel, 1);
            told.date(2025, 1, 1, wheel.adjust(0, 'N', 1), wheel, 1);
        }
        Sentence ways = Sentence.of(8, "'f' the first, 'l' the last day of the month, 'n' the first one of the next "
                + "month, 'F', 'L' and 'N' likewise of the year");
        Yearwheel december = at(2023, 12, 31);
        ways.date(2023, 12, 1, december.adjust(0, 'f', 1), december, 1);
        ways.date(2023, 12, 31, december.adjust(0, 'l', 1), december, 1);
        ways.date(2024, 1, 1, december.adjust(0, 'n', 1), december, 1);
        ways.date(2023, 1, 1, december.adjust(0, 'F', 1), december, 1);
        ways.date(2023, 12, 31, december.adjust(0, 'L', 1), december, 1);
        ways.date(2024, 1, 1, december.adjust(0, 'N', 1), december, 1);
        Sentence.of(8, Sentence.NO_SLOT_FOR_ANY).onlySlots(6, (w, slot) -> w.adjust(slot, 'f', 0))
                .onlySlots(6, (w, slot) -> w.adjust(0, 'f', slot));
        Sentence.of(8, "Throws `IllegalArgumentException` if there is no such way")
                .onlySigns("flnFLN", (w, sign) -> w.adjust(0, sign, 0));
        adjustOut();
    }

    private static void adjustOut() {
        Sentence told = Sentence.of(8, Sentence.ANOTHER_YEAR);
        Yearwheel ends = Check.stirred();
        for (char how : "lL".toCharArray()) {
            told.date(9999, 12, 31, ends.adjust(2, how, 0), ends, 0);
        }
        for (char how : "fF".toCharArray()) {
            told.date(-9999, 1, 1, ends.adjust(1, how, 0), ends, 0);
        }
        Yearwheel november = at(9999, 11, 30);
        told.date(9999, 12, 1, november.adjust(0, 'n', 1), november, 1);
        told.refusedOn("the year behind the last", Check.UNSUPPORTED, november, w -> w.adjust(0, 'N', 1));
        Yearwheel december = at(9999, 12, 1);
        told.refusedOn("the month behind the last", Check.UNSUPPORTED, december, w -> w.adjust(0, 'n', 1));
        told.refused("from the last day to the next month", Check.UNSUPPORTED, w -> w.adjust(2, 'n', 0));
        told.refused("from the last day to the next year", Check.UNSUPPORTED, w -> w.adjust(2, 'N', 0));
        told.refusedOn("from the first day of the last year", Check.UNSUPPORTED, at(9999, 1, 1),
                w -> w.adjust(0, 'N', 1));
        Yearwheel before = at(9998, 12, 31);
        told.date(9999, 1, 1, before.adjust(0, 'N', 1), before, 1);
    }

    private static void weekday() {
        Sentence ways = Sentence.of(9, "'n', 'p', 'N', 'P', 'f' or 'l', as part 2 tells");
        // 2024-12-31 is a Tuesday.
        Yearwheel wheel = at(2024, 12, 31);
        ways.date(2025, 1, 7, wheel.weekday(0, 'n', 2, 1), wheel, 1);
        ways.date(2024, 12, 24, wheel.weekday(0, 'p', 2, 1), wheel, 1);
        ways.date(2024, 12, 31, wheel.weekday(0, 'N', 2, 1), wheel, 1);
        ways.date(2024, 12, 31, wheel.weekday(0, 'P', 2, 1), wheel, 1);
        ways.date(2024, 12, 3, wheel.weekday(0, 'f', 2, 1), wheel, 1);
        ways.date(2024, 12, 31, wheel.weekday(0, 'l', 2, 1), wheel, 1);
        Sentence number = Sentence.of(9, "1 to 7");
        number.date(2025, 1, 6, wheel.weekday(0, 'n', 1, 1), wheel, 1);
        number.date(2025, 1, 5, wheel.weekday(0, 'n', 7, 1), wheel, 1);
        number.date(2024, 12, 30, wheel.weekday(0, 'p', 1, 1), wheel, 1);
        number.date(2024, 12, 29, wheel.weekday(0, 'p', 7, 1), wheel, 1);
        number.date(2024, 12, 2, wheel.weekday(0, 'f', 1, 1), wheel, 1);
        number.date(2024, 12, 1, wheel.weekday(0, 'f', 7, 1), wheel, 1);
        number.date(2024, 12, 30, wheel.weekday(0, 'l', 1, 1), wheel, 1);
        number.date(2024, 12, 29, wheel.weekday(0, 'l', 7, 1), wheel, 1);
        for (char how : "npNPfl".toCharArray()) {
            number.refusedNumbers(Check.ARGUMENT, (w, n) -> w.weekday(0, how, (int) n, 1), 0, 8, -1, LEAST, MOST);
        }
        Sentence.of(9, Sentence.NO_SLOT_FOR_ANY).onlySlots(6, (w, slot) -> w.weekday(slot, 'n', 1, 0))
                .onlySlots(6, (w, slot) -> w.weekday(0, 'n', 1, slot));
        Sentence none = Sentence.of(9, "Throws `IllegalArgumentException` if there is no such way, or weekday");
        none.onlySigns("npNPfl", (w, sign) -> w.weekday(0, sign, 1, 0));
        none.refusedNumbers(Check.ARGUMENT, (w, n) -> w.weekday(0, 'f', (int) n, 0), 0, 8);
    }

    /** The first date of all is a Monday, the last one a Friday. */
    private static void weekdayOut() {
        Sentence told = Sentence.of(9, Sentence.ANOTHER_YEAR);
        Yearwheel wheel = Check.stirred();
        told.date(9999, 12, 31, wheel.weekday(2, 'N', 5, 0), wheel, 0);
        told.date(9999, 12, 31, wheel.weekday(2, 'l', 5, 0), wheel, 0);
        told.date(9999, 12, 25, wheel.weekday(2, 'l', 6, 0), wheel, 0);
        told.date(9999, 12, 25, wheel.weekday(2, 'p', 6, 0), wheel, 0);
        told.date(-9999, 1, 1, wheel.weekday(1, 'P', 1, 0), wheel, 0);
        told.date(-9999, 1, 1, wheel.weekday(1, 'f', 1, 0), wheel, 0);
        told.date(-9999, 1, 7, wheel.weekday(1, 'f', 7, 0), wheel, 0);
        told.date(-9999, 1, 7, wheel.weekday(1, 'n', 7, 0), wheel, 0);
        told.date(9999, 12, 31, at(9999, 12, 24).weekday(0, 'n', 5, 0), at(9999, 12, 31), 0);
        told.date(-9999, 1, 1, at(-9999, 1, 8).weekday(0, 'p', 1, 0), at(-9999, 1, 1), 0);
        told.refusedOn("a week behind", Check.UNSUPPORTED, at(9999, 12, 25), w -> w.weekday(0, 'n', 6, 0));
        told.refusedOn("a week ahead", Check.UNSUPPORTED, at(-9999, 1, 7), w -> w.weekday(0, 'p', 7, 0));
        for (int weekday = 1; weekday <= 7; weekday++) {
            int each = weekday;
            told.refused("behind the last", Check.UNSUPPORTED, w -> w.weekday(2, 'n', each, 0));
            told.refused("ahead of the first", Check.UNSUPPORTED, w -> w.weekday(1, 'p', each, 0));
            if (weekday != 5) {
                told.refused("behind the last, not the same", Check.UNSUPPORTED, w -> w.weekday(2, 'N', each, 0));
            }
            if (weekday != 1) {
                told.refused("ahead of the first, not the same", Check.UNSUPPORTED, w -> w.weekday(1, 'P', each, 0));
            }
        }
    }

    private static void inMonth() {
        Sentence number = Sentence.of(10, "-6 to 6");
        Yearwheel wheel = at(2024, 2, 15);
        number.date(2024, 1, 25, wheel.inMonth(0, -6, 4, 1), wheel, 1);
        number.date(2024, 2, 29, wheel.inMonth(0, -1, 4, 1), wheel, 1);
        number.date(2024, 1, 25, wheel.inMonth(0, 0, 4, 1), wheel, 1);
        number.date(2024, 2, 1, wheel.inMonth(0, 1, 4, 1), wheel, 1);
        number.date(2024, 3, 7, wheel.inMonth(0, 6, 4, 1), wheel, 1);
        number.refusedNumbers(Check.ARGUMENT, (w, n) -> w.inMonth(0, (int) n, 4, 1), -7, 7, LEAST, MOST);
        Sentence weekday = Sentence.of(10, "1 to 7");
        weekday.date(2024, 2, 5, wheel.inMonth(0, 1, 1, 1), wheel, 1);
        weekday.date(2024, 2, 4, wheel.inMonth(0, 1, 7, 1), wheel, 1);
        weekday.date(2024, 2, 26, wheel.inMonth(0, -1, 1, 1), wheel, 1);
        weekday.date(2024, 2, 25, wheel.inMonth(0, -1, 7, 1), wheel, 1);
        for (int each = -6; each <= 6; each++) {
            int of = each;
            weekday.refusedNumbers(Check.ARGUMENT, (w, n) -> w.inMonth(0, of, (int) n, 1), 0, 8, -1, LEAST, MOST);
        }
        Sentence.of(10, Sentence.NO_SLOT_FOR_ANY).onlySlots(6, (w, slot) -> w.inMonth(slot, 1, 1, 0))
                .onlySlots(6, (w, slot) -> w.inMonth(0, 1, 1, slot));
        Sentence none = Sentence.of(10, "Throws `IllegalArgumentException` if a number is out of range");
        none.refusedNumbers(Check.ARGUMENT, (w, n) -> w.inMonth(0, (int) n, 1, 0), -7, 7);
        none.refusedNumbers(Check.ARGUMENT, (w, n) -> w.inMonth(0, 1, (int) n, 0), 0, 8);
    }

    /** The first month of all begins with a Monday, of which it has five; the last one ends with its fifth Friday. */
    private static void inMonthOut() {
        Sentence told = Sentence.of(10, Sentence.ANOTHER_YEAR);
        Yearwheel wheel = Check.stirred();
        told.date(9999, 12, 31, wheel.inMonth(2, 5, 5, 0), wheel, 0);
        told.date(9999, 12, 31, wheel.inMonth(2, -1, 5, 0), wheel, 0);
        told.date(9999, 12, 25, wheel.inMonth(2, 4, 6, 0), wheel, 0);
        told.refused("a sixth one", Check.UNSUPPORTED, w -> w.inMonth(2, 6, 5, 0));
        told.refused("a fifth one that there is not", Check.UNSUPPORTED, w -> w.inMonth(2, 5, 6, 0));
        told.date(-9999, 1, 1, wheel.inMonth(1, 1, 1, 0), wheel, 0);
        told.date(-9999, 1, 1, wheel.inMonth(1, -5, 1, 0), wheel, 0);
        told.date(-9999, 1, 4, wheel.inMonth(1, -4, 4, 0), wheel, 0);
        told.refused("a sixth one from the end", Check.UNSUPPORTED, w -> w.inMonth(1, -6, 1, 0));
        told.refused("a fifth one from the end that there is not", Check.UNSUPPORTED, w -> w.inMonth(1, -5, 4, 0));
        for (int weekday = 1; weekday <= 7; weekday++) {
            int each = weekday;
            told.refused("a week ahead of the first one", Check.UNSUPPORTED, w -> w.inMonth(1, 0, each, 0));
            told.refused("a sixth one", Check.UNSUPPORTED, w -> w.inMonth(2, 6, each, 0));
            told.refused("a sixth one from the end", Check.UNSUPPORTED, w -> w.inMonth(1, -6, each, 0));
        }
    }

    private static void atYear() {
        Sentence told = Sentence.of(11, "Lets a slot become the day of a month in a year; the 29th of the second month "
                + "is the 28th in one that is not long.");
        Yearwheel wheel = new Yearwheel();
        for (int year : new int[] {-9996, -400, 0, 4, 2000, 2024, 9996}) {
            told.date(year, 2, 29, wheel.atYear(2, 29, year, 3), wheel, 3);
        }
        for (int year : new int[] {-9999, -100, -1, 1, 100, 1900, 2023, 9999}) {
            told.date(year, 2, 28, wheel.atYear(2, 29, year, 3), wheel, 3);
            told.date(year, 2, 28, wheel.atYear(2, 28, year, 3), wheel, 3);
            told.date(year, 3, 29, wheel.atYear(3, 29, year, 3), wheel, 3);
        }
        Sentence month = Sentence.of(11, "1 to 12");
        month.date(2023, 1, 1, wheel.atYear(1, 1, 2023, 0), wheel, 0);
        month.date(2023, 12, 31, wheel.atYear(12, 31, 2023, 5), wheel, 5);
        month.refusedNumbers(Check.ARGUMENT, (w, n) -> w.atYear((int) n, 1, 2023, 0), 0, 13, -1, LEAST, MOST);
        Sentence.of(11, Sentence.NO_SLOT).onlySlots(6, (w, slot) -> w.atYear(1, 1, 2023, slot));
        Sentence none = Sentence.of(11, "Throws `IllegalArgumentException` if there is no such day, or year");
        for (int each = 1; each <= 12; each++) {
            int of = each;
            int last = each == 2 ? 29 : LENGTHS[each - 1];
            for (int year : new int[] {2023, 2024}) {
                none.takenNumbers((w, n) -> w.atYear(of, (int) n, year, 0), 1, last);
                none.refusedNumbers(Check.ARGUMENT, (w, n) -> w.atYear(of, (int) n, year, 0), 0, last + 1, -1, LEAST,
                        MOST);
            }
        }
        none.takenNumbers((w, n) -> w.atYear(2, 29, (int) n, 0), -9999, 9999);
        none.refusedNumbers(Check.ARGUMENT, (w, n) -> w.atYear(2, 29, (int) n, 0), -10000, 10000, LEAST, MOST);
    }

    private static void order() {
        Sentence told = Sentence.of(12, "Returns -1 if the first one is ahead, 0 if both are the same, 1 otherwise.");
        Yearwheel wheel = Check.stirred();
        told.same("the first and the last of all", -1, wheel.order(1, 2));
        told.same("the last and the first of all", 1, wheel.order(2, 1));
        wheel.ofDay(0, -1);
        wheel.ofDay(3, 0);
        told.same("a day ahead", -1, wheel.order(0, 3));
        told.same("a day behind", 1, wheel.order(3, 0));
        wheel.ofDay(4, 0);
        told.same("the same in two slots", 0, wheel.order(3, 4));
        told.same("one slot", 0, wheel.order(2, 2));
        Sentence.of(12, Sentence.NO_SLOT_FOR_ANY).onlySlots(6, (w, slot) -> w.order(slot, 0))
                .onlySlots(6, (w, slot) -> w.order(0, slot));
    }

    private static void between() {
        Sentence units = Sentence.of(13, "'d', 'w', 'm' or 'y'");
        Yearwheel wheel = Check.stirred();
        units.same("all days", 7304483, wheel.between(1, 2, 'd'));
        units.same("all weeks", 1043497, wheel.between(1, 2, 'w'));
        units.same("all months", 239987, wheel.between(1, 2, 'm'));
        units.same("all years", 19998, wheel.between(1, 2, 'y'));
        Sentence below = Sentence.of(13, "Returns how many, below 0 if that one is ahead.");
        below.same("all days back", -7304483, wheel.between(2, 1, 'd'));
        below.same("all weeks back", -1043497, wheel.between(2, 1, 'w'));
        below.same("all months back", -239987, wheel.between(2, 1, 'm'));
        below.same("all years back", -19998, wheel.between(2, 1, 'y'));
        wheel.ofDay(3, 0);
        wheel.ofDay(4, -1);
        int[] due = {-1, 0, 0, 0};
        for (int unit = 0; unit < 4; unit++) {
            below.same("a day back", due[unit], wheel.between(3, 4, "dwmy".charAt(unit)));
            below.same("to itself", 0, wheel.between(3, 3, "dwmy".charAt(unit)));
        }
        Sentence.of(13, Sentence.NO_SLOT_FOR_ANY).onlySlots(6, (w, slot) -> w.between(slot, 0, 'd'))
                .onlySlots(6, (w, slot) -> w.between(0, slot, 'd'));
        Sentence.of(13, "Throws `IllegalArgumentException` if there is no such unit")
                .onlySigns("dwmy", (w, sign) -> w.between(0, 1, sign));
    }
}
