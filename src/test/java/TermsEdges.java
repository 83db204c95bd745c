/** The sentences of the terms, parts 1 to 6, and of what the document is. */
final class TermsEdges {
    private static final int[] LONG_YEARS = {-9996, -2000, -400, -4, 0, 4, 1600, 1904, 1996, 2000, 2024, 2400, 9996};
    private static final int[] OTHER_YEARS = {-9999, -9900, -2001, -500, -401, -300, -200, -100, -3, -2, -1, 1, 2, 3,
            100, 200, 300, 500, 1700, 1800, 1900, 1970, 2022, 2023, 2025, 2100, 9900, 9999};
    private static final int[] LENGTHS = {31, 28, 31, 30, 31, 30, 31, 31, 30, 31, 30, 31};
    private static final long DAY = 86400000000000L;

    static void all() {
        calls();
        dateSlots();
        years();
        longYears();
        lengthsOfMonths();
        weekdays();
        anotherYear();
        moving();
        anotherPart();
        toWeekdays();
        toNumbers();
        spanSlots();
        spanParts();
        goingBySpans();
        leadingSpans();
        wholeUnits();
        months();
        times();
        cutting();
        lengths();
        lengthsBelow();
        roundTheDay();
        moments();
        movingMoments();
        wholeOfMoments();
    }

    private static void calls() {
        Sentence told = Sentence.of("What it is", "An object is used for at most 512 calls after it has been made; "
                + "what later calls answer is free.");
        Yearwheel wheel = new Yearwheel();
        for (int call = 1; call <= 511; call++) {
            told.same("the call " + call, call, wheel.move(0, 'd', 1, 0));
        }
        told.same("the call 512", 512, wheel.move(0, 'd', 1, 0));
        Yearwheel refused = new Yearwheel();
        for (int call = 1; call <= 511; call++) {
            told.holds("the refused call " + call, Check.thrown(() -> refused.ofDay(0, 2932897)) == Check.UNSUPPORTED);
        }
        told.same("the call 512", 0, refused.day(0));
    }

    // Part 1

    private static void dateSlots() {
        Sentence told = Sentence.of("Part 1", "There are the slots 0 to 5, each with a date, 1970-01-01 at first,");
        told.onlySlots(6, (w, slot) -> w.day(slot));
        for (int slot = 0; slot < 6; slot++) {
            Yearwheel wheel = new Yearwheel();
            told.date(1970, 1, 1, wheel.day(slot), wheel, slot);
            wheel.date(slot, 2001, 2, 3);
            for (int other = 0; other < 6; other++) {
                told.same("each has its own date", other == slot ? 11356 : 0, wheel.day(other));
            }
        }
    }

    private static void years() {
        Sentence told = Sentence.of("Part 1", "of the years -9999 to 9999, a year ahead of which there are as many as "
                + "its number tells, 0 too.");
        Yearwheel wheel = new Yearwheel();
        told.date(-9999, 1, 1, wheel.date(0, -9999, 1, 1), wheel, 0);
        told.date(9999, 12, 31, wheel.date(1, 9999, 12, 31), wheel, 1);
        told.refused("ahead of the first year", Check.ARGUMENT, w -> w.date(0, -10000, 12, 31));
        told.refused("behind the last year", Check.ARGUMENT, w -> w.date(0, 10000, 1, 1));
        told.date(0, 1, 1, wheel.date(2, 0, 1, 1), wheel, 2);
        told.date(-1, 12, 31, wheel.move(2, 'd', -1, 3), wheel, 3);
        told.date(0, 12, 31, wheel.adjust(2, 'L', 4), wheel, 4);
        told.date(1, 1, 1, wheel.move(4, 'd', 1, 5), wheel, 5);
        told.same("as many years ahead as the number tells", 1970 * 12, monthsFromYear0(1970));
    }

    private static long monthsFromYear0(int year) {
        Yearwheel wheel = new Yearwheel();
        wheel.date(0, 0, 1, 1);
        wheel.date(1, year, 1, 1);
        return wheel.between(0, 1, 'm');
    }

    private static void longYears() {
        Sentence told = Sentence.of("Part 1", "A year is a long one, with 366 days, if 4 divides its number, but 100 "
                + "does not, or 400 does;");
        for (int year : LONG_YEARS) {
            isLong(told, year, true);
        }
        for (int year : OTHER_YEARS) {
            isLong(told, year, false);
        }
    }

    private static void isLong(Sentence told, int year, boolean isLong) {
        Yearwheel wheel = new Yearwheel();
        wheel.date(0, year, 12, 31);
        wheel.month(0, year, 1);
        told.same(year + " b", isLong ? 1 : 0, wheel.part(0, 'b'));
        told.same(year + " L", isLong ? 366 : 365, wheel.part(0, 'L'));
        told.same(year + " its last day", isLong ? 366 : 365, wheel.part(0, 'n'));
        told.same(year + " L of a month", isLong ? 366 : 365, wheel.monthPart(0, 'L'));
        told.same(year + " longShare", isLong ? 1 : 0, Math.round(6 * wheel.longShare()));
    }

    private static void lengthsOfMonths() {
        Sentence told = Sentence.of("Part 1", "the months have 31, 28, or 29 in a long year, 31, 30, 31, 30, 31, 31, "
                + "30, 31, 30 and 31 days.");
        for (int year : LONG_YEARS) {
            monthsOf(told, year, true);
        }
        for (int year : OTHER_YEARS) {
            monthsOf(told, year, false);
        }
    }

    private static void monthsOf(Sentence told, int year, boolean isLong) {
        for (int month = 1; month <= 12; month++) {
            int last = month == 2 && isLong ? 29 : LENGTHS[month - 1];
            int each = month;
            Yearwheel wheel = new Yearwheel();
            told.month(year, month, wheel.month(0, year, month), wheel, 0);
            told.same("its days", last, wheel.monthPart(0, 'l'));
            told.date(year, month, last, wheel.date(1, year, month, last), wheel, 1);
            told.refusedOn("a day more", Check.ARGUMENT, wheel, w -> w.date(1, year, each, last + 1));
        }
    }

    private static void weekdays() {
        Sentence first = Sentence.of("Part 1", "The number of the day of 1970-01-01 is 0.");
        Yearwheel wheel = new Yearwheel();
        first.date(1970, 1, 1, 0, wheel, 0);
        first.same("by its parts", 0, wheel.date(1, 1970, 1, 1));
        first.same("by its number", 1970, wheel.ofDay(2, 0));
        first.date(1969, 12, 31, wheel.move(0, 'd', -1, 3), wheel, 3);
        first.same("the day ahead", -1, wheel.day(3));
        Sentence week = Sentence.of("Part 1", "Days of the week are 1, Monday, to 7;");
        Sentence known = Sentence.of("Part 1", "1970-01-01 is a 4.");
        known.same("the first date", 4, wheel.part(0, 'w'));
        int due = 4;
        for (int day = 0; day <= 800; day++) {
            Yearwheel each = new Yearwheel();
            each.ofDay(0, day);
            week.same("day " + day, due, each.part(0, 'w'));
            due = due == 7 ? 1 : due + 1;
        }
        due = 4;
        for (int day = 0; day >= -800; day--) {
            Yearwheel each = new Yearwheel();
            each.ofDay(0, day);
            week.same("day " + day, due, each.part(0, 'w'));
            due = due == 1 ? 7 : due - 1;
        }
        Yearwheel ends = Check.stirred();
        week.same("the first date that there is", 1, ends.part(1, 'w'));
        week.same("the last date that there is", 5, ends.part(2, 'w'));
        week.refused("a weekday 0", Check.ARGUMENT, w -> w.weekday(0, 'n', 0, 0));
        week.refused("a weekday 8", Check.ARGUMENT, w -> w.weekday(0, 'n', 8, 0));
    }

    private static void anotherYear() {
        Sentence told = Sentence.of("Part 1", "What would come, at last, to a date of another year is refused.");
        told.refused("a number", Check.UNSUPPORTED, w -> w.ofDay(0, 2932897));
        told.refused("a move", Check.UNSUPPORTED, w -> w.move(2, 'd', 1, 0));
        told.refused("a way", Check.UNSUPPORTED, w -> w.adjust(2, 'n', 0));
        told.refused("a weekday", Check.UNSUPPORTED, w -> w.weekday(2, 'n', 1, 0));
        told.refused("a weekday in the month", Check.UNSUPPORTED, w -> w.inMonth(2, 6, 5, 0));
        told.refused("a span", Check.UNSUPPORTED, w -> w.go(1, 3, false, 0));
        told.refused("a moment", Check.UNSUPPORTED, w -> w.moveMoment(1, 'n', -1, 0));
        told.refused("a moment by a length", Check.UNSUPPORTED, w -> w.goMoment(2, 3, false, 0));
        // At last: on the way there may be a year that dates do not have, here one of 366 days.
        Yearwheel wheel = Check.stirred();
        wheel.span(0, 1, 0, -366);
        told.date(9999, 12, 31, wheel.go(2, 0, false, 0), wheel, 0);
        wheel.span(0, -1, 0, 366);
        told.date(-9999, 1, 1, wheel.go(1, 0, false, 0), wheel, 0);
        wheel.span(0, 1, 0, -365);
        told.refusedOn("a day short of home", Check.UNSUPPORTED, wheel, w -> w.go(2, 0, false, 0));
        wheel.span(0, 2737, 0, -1000000);
        told.holds("months far behind the last year", wheel.go(2, 0, false, 0) <= 2932896);
        wheel.span(0, -1000000, 0, 1000000);
        told.refusedOn("too far all the same", Check.UNSUPPORTED, wheel, w -> w.go(1, 0, false, 0));
    }

    // Part 2

    private static void moving() {
        Sentence told = Sentence.of("Part 2", "By days 'd', weeks 'w', months 'm' and years 'y' as the theorem tells.");
        Yearwheel wheel = new Yearwheel();
        wheel.date(0, 2023, 12, 31);
        told.date(2024, 1, 1, wheel.move(0, 'd', 1, 1), wheel, 1);
        told.date(2024, 1, 7, wheel.move(0, 'w', 1, 1), wheel, 1);
        told.date(2024, 2, 29, wheel.move(0, 'm', 2, 1), wheel, 1);
        told.date(2023, 2, 28, wheel.move(0, 'm', -10, 1), wheel, 1);
        told.date(2023, 11, 30, wheel.move(0, 'm', -1, 1), wheel, 1);
        told.date(2022, 12, 31, wheel.move(0, 'm', -12, 1), wheel, 1);
        told.date(2022, 11, 30, wheel.move(0, 'm', -13, 1), wheel, 1);
        wheel.date(2, 2024, 2, 29);
        told.date(2025, 2, 28, wheel.move(2, 'y', 1, 3), wheel, 3);
        told.date(2028, 2, 29, wheel.move(2, 'y', 4, 3), wheel, 3);
        told.date(1900, 2, 28, wheel.move(2, 'y', -124, 3), wheel, 3);
        told.date(0, 2, 29, wheel.move(2, 'y', -2024, 3), wheel, 3);
        told.date(-1, 2, 28, wheel.move(2, 'y', -2025, 3), wheel, 3);
        told.date(2024, 2, 29, wheel.move(2, 'm', 0, 3), wheel, 3);
    }

    private static void anotherPart() {
        Sentence day = Sentence.of("Part 2", "With another day of the month, or of the year, a date has that in the "
                + "same month, or year;");
        Yearwheel wheel = new Yearwheel();
        wheel.date(0, 2024, 2, 15);
        day.date(2024, 2, 1, wheel.with(0, 'd', 1, 1), wheel, 1);
        day.date(2024, 2, 29, wheel.with(0, 'd', 29, 1), wheel, 1);
        day.refusedOn("a day that the month has not", Check.ARGUMENT, wheel, w -> w.with(0, 'd', 30, 1));
        day.date(2024, 1, 1, wheel.with(0, 'n', 1, 1), wheel, 1);
        day.date(2024, 12, 31, wheel.with(0, 'n', 366, 1), wheel, 1);
        day.refusedOn("a day that the year has not", Check.ARGUMENT, wheel, w -> w.with(0, 'n', 367, 1));
        Sentence month = Sentence.of("Part 2", "with another month, or year, the same day, or the last one, if there "
                + "are fewer.");
        wheel.date(0, 2024, 1, 31);
        int[] last = {31, 29, 31, 30, 31, 30, 31, 31, 30, 31, 30, 31};
        for (int to = 1; to <= 12; to++) {
            month.date(2024, to, last[to - 1], wheel.with(0, 'm', to, 1), wheel, 1);
        }
        wheel.date(0, 2024, 1, 30);
        month.date(2024, 2, 29, wheel.with(0, 'm', 2, 1), wheel, 1);
        month.date(2024, 4, 30, wheel.with(0, 'm', 4, 1), wheel, 1);
        wheel.date(0, 2023, 3, 29);
        month.date(2023, 2, 28, wheel.with(0, 'm', 2, 1), wheel, 1);
        wheel.date(0, 2024, 2, 29);
        month.date(2023, 2, 28, wheel.with(0, 'y', 2023, 1), wheel, 1);
        month.date(2000, 2, 29, wheel.with(0, 'y', 2000, 1), wheel, 1);
        month.date(9999, 2, 28, wheel.with(0, 'y', 9999, 1), wheel, 1);
        month.date(-9999, 2, 28, wheel.with(0, 'y', -9999, 1), wheel, 1);
    }

    private static void toWeekdays() {
        Yearwheel wheel = new Yearwheel();
        wheel.date(0, 2024, 2, 29);
        Sentence told = Sentence.of("Part 2", "To a weekday:");
        told.same("a Thursday", 4, wheel.part(0, 'w'));
        Sentence next = Sentence.of("Part 2", "'n' to the next date of that weekday,");
        next.date(2024, 3, 7, wheel.weekday(0, 'n', 4, 1), wheel, 1);
        next.date(2024, 3, 1, wheel.weekday(0, 'n', 5, 1), wheel, 1);
        next.date(2024, 3, 6, wheel.weekday(0, 'n', 3, 1), wheel, 1);
        Sentence ahead = Sentence.of("Part 2", "'p' to the one ahead,");
        ahead.date(2024, 2, 22, wheel.weekday(0, 'p', 4, 1), wheel, 1);
        ahead.date(2024, 2, 28, wheel.weekday(0, 'p', 3, 1), wheel, 1);
        ahead.date(2024, 2, 23, wheel.weekday(0, 'p', 5, 1), wheel, 1);
        Sentence stays = Sentence.of("Part 2", "'N' and 'P' likewise, but a date of that weekday stays,");
        stays.date(2024, 2, 29, wheel.weekday(0, 'N', 4, 1), wheel, 1);
        stays.date(2024, 3, 1, wheel.weekday(0, 'N', 5, 1), wheel, 1);
        stays.date(2024, 3, 6, wheel.weekday(0, 'N', 3, 1), wheel, 1);
        stays.date(2024, 2, 29, wheel.weekday(0, 'P', 4, 1), wheel, 1);
        stays.date(2024, 2, 28, wheel.weekday(0, 'P', 3, 1), wheel, 1);
        stays.date(2024, 2, 23, wheel.weekday(0, 'P', 5, 1), wheel, 1);
        Sentence first = Sentence.of("Part 2", "'f' to the first one in the month,");
        first.date(2024, 2, 1, wheel.weekday(0, 'f', 4, 1), wheel, 1);
        first.date(2024, 2, 2, wheel.weekday(0, 'f', 5, 1), wheel, 1);
        first.date(2024, 2, 7, wheel.weekday(0, 'f', 3, 1), wheel, 1);
        Sentence last = Sentence.of("Part 2", "'l' to the last one.");
        last.date(2024, 2, 29, wheel.weekday(0, 'l', 4, 1), wheel, 1);
        last.date(2024, 2, 28, wheel.weekday(0, 'l', 3, 1), wheel, 1);
        last.date(2024, 2, 23, wheel.weekday(0, 'l', 5, 1), wheel, 1);
    }

    private static void toNumbers() {
        Yearwheel wheel = new Yearwheel();
        wheel.date(0, 2024, 2, 15);
        Sentence told = Sentence.of("Part 2", "To the weekday of a number in the month:");
        told.date(2024, 2, 8, wheel.inMonth(0, 2, 4, 1), wheel, 1);
        Sentence above = Sentence.of("Part 2", "above 0 so many weeks, less one, behind the first one in the month;");
        above.date(2024, 2, 1, wheel.inMonth(0, 1, 4, 1), wheel, 1);
        above.date(2024, 2, 29, wheel.inMonth(0, 5, 4, 1), wheel, 1);
        above.date(2024, 2, 7, wheel.inMonth(0, 1, 3, 1), wheel, 1);
        above.date(2024, 2, 28, wheel.inMonth(0, 4, 3, 1), wheel, 1);
        Sentence below = Sentence.of("Part 2", "below 0 so many, less one, ahead of the last one;");
        below.date(2024, 2, 29, wheel.inMonth(0, -1, 4, 1), wheel, 1);
        below.date(2024, 2, 1, wheel.inMonth(0, -5, 4, 1), wheel, 1);
        below.date(2024, 2, 23, wheel.inMonth(0, -1, 5, 1), wheel, 1);
        below.date(2024, 2, 2, wheel.inMonth(0, -4, 5, 1), wheel, 1);
        Sentence none = Sentence.of("Part 2", "by 0 a week ahead of the first one;");
        none.date(2024, 1, 25, wheel.inMonth(0, 0, 4, 1), wheel, 1);
        none.date(2024, 1, 31, wheel.inMonth(0, 0, 3, 1), wheel, 1);
        none.date(2024, 1, 26, wheel.inMonth(0, 0, 5, 1), wheel, 1);
        Sentence any = Sentence.of("Part 2", "it is the date that this comes to, in whatever month.");
        any.date(2024, 3, 7, wheel.inMonth(0, 6, 4, 1), wheel, 1);
        any.date(2024, 3, 6, wheel.inMonth(0, 5, 3, 1), wheel, 1);
        any.date(2024, 3, 13, wheel.inMonth(0, 6, 3, 1), wheel, 1);
        any.date(2024, 1, 25, wheel.inMonth(0, -6, 4, 1), wheel, 1);
        any.date(2024, 1, 26, wheel.inMonth(0, -5, 5, 1), wheel, 1);
        wheel.date(0, 2023, 12, 31);
        any.date(2024, 1, 5, wheel.inMonth(0, 6, 5, 1), wheel, 1);
        wheel.date(0, 2024, 1, 1);
        any.date(2023, 12, 31, wheel.inMonth(0, 0, 7, 1), wheel, 1);
    }

    // Part 3

    private static void spanSlots() {
        Sentence told = Sentence.of("Part 3", "There are the slots 0 to 3, each with years, months and days, 0 each at "
                + "first, from -1000000 to 1000000;");
        told.onlySlots(4, (w, slot) -> w.spanPart(slot, 'y'));
        for (int slot = 0; slot < 4; slot++) {
            Yearwheel wheel = new Yearwheel();
            told.span(0, 0, 0, 0, wheel, slot);
            told.span(1000000, -1000000, 1000000, wheel.span(slot, 1000000, -1000000, 1000000), wheel, slot);
            told.span(-1000000, 1000000, -1000000, wheel.span(slot, -1000000, 1000000, -1000000), wheel, slot);
        }
        Sentence refused = Sentence.of("Part 3", "what would come to another number is refused.");
        Yearwheel wheel = new Yearwheel();
        wheel.span(0, 1000000, 0, 0);
        wheel.span(1, 1, 0, 0);
        wheel.span(2, 1000000, 12, 0);
        refused.refusedOn("a sum", Check.UNSUPPORTED, wheel, w -> w.addSpan(0, 1, false, 0));
        refused.refusedOn("a product", Check.UNSUPPORTED, wheel, w -> w.timesSpan(0, 2, 0));
        refused.refusedOn("a plain one", Check.UNSUPPORTED, wheel, w -> w.plainSpan(2, 0));
        refused.refused("a given one", Check.ARGUMENT, w -> w.span(0, 1000001, 0, 0));
    }

    private static void spanParts() {
        Sentence parts = Sentence.of("Part 3", "Spans are added, taken away and multiplied part by part;");
        Yearwheel wheel = new Yearwheel();
        wheel.span(0, 1, 11, 30);
        wheel.span(1, 0, 2, -31);
        parts.span(1, 13, -1, wheel.addSpan(0, 1, false, 2), wheel, 2);
        parts.span(1, 9, 61, wheel.addSpan(0, 1, true, 2), wheel, 2);
        parts.span(2, 22, 60, wheel.timesSpan(0, 2, 2), wheel, 2);
        parts.span(0, 0, 0, wheel.addSpan(0, 0, true, 2), wheel, 2);
        Sentence plain = Sentence.of("Part 3", "made plain, the days stay, and all months, 12 for a year, are parted "
                + "in years and months, cut toward 0, so that both have one sign.");
        int[][] made = {{0, 11, 31, 0, 11}, {0, 12, 366, 1, 0}, {0, 13, -40, 1, 1}, {0, -11, 0, 0, -11},
                {0, -12, 0, -1, 0}, {0, -13, 5, -1, -1}, {1, -1, 0, 0, 11}, {-1, 1, 0, 0, -11}, {1, -12, 9, 0, 0},
                {1, -13, 0, 0, -1}, {-1, 13, 0, 0, 1}, {2, -25, 0, 0, -1}, {-2, -25, 3, -4, -1}};
        for (int[] each : made) {
            wheel.span(0, each[0], each[1], each[2]);
            plain.span(each[3], each[4], each[2], wheel.plainSpan(0, 1), wheel, 1);
        }
    }

    private static void goingBySpans() {
        Sentence told = Sentence.of("Part 3", "A date goes by a span by all its months, at once, then by its days.");
        Yearwheel wheel = new Yearwheel();
        wheel.date(0, 2024, 2, 29);
        wheel.span(0, 1, 12, 0);
        told.date(2026, 2, 28, wheel.go(0, 0, false, 1), wheel, 1);
        wheel.span(0, 3, 12, 0);
        told.date(2028, 2, 29, wheel.go(0, 0, false, 1), wheel, 1);
        wheel.span(0, 1, -12, 0);
        told.date(2024, 2, 29, wheel.go(0, 0, false, 1), wheel, 1);
        wheel.date(0, 2024, 1, 31);
        wheel.span(0, 0, 1, 1);
        told.date(2024, 3, 1, wheel.go(0, 0, false, 1), wheel, 1);
        wheel.span(0, 0, 1, -1);
        told.date(2024, 2, 28, wheel.go(0, 0, false, 1), wheel, 1);
        wheel.date(0, 2024, 3, 31);
        wheel.span(0, 0, 1, 31);
        told.date(2024, 1, 29, wheel.go(0, 0, true, 1), wheel, 1);
    }

    private static void leadingSpans() {
        Sentence told = Sentence.of("Part 3", "The span that leads from a date to another one, not ahead of it: as "
                + "many whole months as there are between both, in years and fewer than 12 months, and then days, from "
                + "where so many months lead.");
        Yearwheel wheel = new Yearwheel();
        int[][] ways = {{2024, 1, 31, 2024, 1, 31, 0, 0, 0}, {2024, 1, 31, 2024, 2, 1, 0, 0, 1},
                {2024, 1, 31, 2024, 2, 29, 0, 0, 29}, {2024, 1, 31, 2024, 3, 1, 0, 1, 1},
                {2024, 1, 31, 2024, 3, 30, 0, 1, 30}, {2024, 1, 31, 2024, 3, 31, 0, 2, 0},
                {2024, 1, 31, 2024, 5, 30, 0, 3, 30}, {2024, 2, 29, 2025, 2, 28, 0, 11, 30},
                {2024, 2, 29, 2025, 3, 1, 1, 0, 1}, {2024, 2, 29, 2028, 2, 29, 4, 0, 0},
                {2023, 12, 31, 2024, 12, 30, 0, 11, 30}, {2023, 12, 31, 2024, 12, 31, 1, 0, 0},
                {-1, 12, 31, 0, 1, 1, 0, 0, 1}, {-9999, 1, 1, 9999, 12, 31, 19998, 11, 30}};
        for (int[] way : ways) {
            wheel = new Yearwheel();
            wheel.date(0, way[0], way[1], way[2]);
            wheel.date(1, way[3], way[4], way[5]);
            told.span(way[6], way[7], way[8], wheel.until(0, 1, 3), wheel, 3);
            told.date(way[3], way[4], way[5], wheel.go(0, 3, false, 2), wheel, 2);
        }
        told.refused("ahead of it", Check.UNSUPPORTED, w -> w.until(2, 1, 0));
    }

    private static void wholeUnits() {
        Sentence months = Sentence.of("Part 3", "There are whole months between two dates by their months, one less if "
                + "the day of the later one is less than that of the earlier one;");
        units(months, 'm', new int[][] {{2024, 1, 31, 2024, 2, 29, 0}, {2024, 1, 31, 2024, 3, 30, 1},
                {2024, 1, 31, 2024, 3, 31, 2}, {2024, 2, 29, 2024, 3, 29, 1}, {2024, 2, 29, 2024, 3, 28, 0},
                {2023, 12, 31, 2024, 1, 30, 0}, {2023, 12, 1, 2024, 1, 1, 1}, {2024, 1, 31, 2024, 1, 31, 0},
                {2024, 1, 1, 2024, 1, 31, 0}, {-9999, 1, 1, 9999, 12, 31, 239987}});
        Sentence years = Sentence.of("Part 3", "whole years are a twelfth of them,");
        units(years, 'y', new int[][] {{2023, 3, 15, 2024, 3, 14, 0}, {2023, 3, 15, 2024, 3, 15, 1},
                {2024, 2, 29, 2025, 2, 28, 0}, {2024, 2, 29, 2025, 3, 1, 1}, {2000, 1, 1, 2023, 12, 31, 23},
                {-9999, 1, 1, 9999, 12, 31, 19998}});
        Sentence weeks = Sentence.of("Part 3", "whole weeks a seventh of the days, cut.");
        units(weeks, 'w', new int[][] {{2024, 2, 26, 2024, 3, 3, 0}, {2024, 2, 26, 2024, 3, 4, 1},
                {2024, 2, 26, 2024, 3, 10, 1}, {2024, 2, 26, 2024, 3, 11, 2}, {-9999, 1, 1, 9999, 12, 31, 1043497}});
        Sentence back = Sentence.of("Part 3", "Where the other date is ahead all of these are as many the other way, "
                + "below 0.");
        back.same("months", -2, backBy('m'));
        back.same("years", -1, backBy('y'));
        back.same("weeks", -1, backBy('w'));
        back.same("days", -13, backBy('d'));
    }

    private static void units(Sentence told, char unit, int[][] ways) {
        for (int[] way : ways) {
            Yearwheel wheel = new Yearwheel();
            wheel.date(0, way[0], way[1], way[2]);
            wheel.date(1, way[3], way[4], way[5]);
            told.same("on", way[6], wheel.between(0, 1, unit));
            told.same("back", -way[6], wheel.between(1, 0, unit));
        }
    }

    /** Cut toward 0, not down: each lacks a day of one more. */
    private static long backBy(char unit) {
        Yearwheel wheel = new Yearwheel();
        wheel.date(0, 2024, 3, 31);
        int[] from = unit == 'm' ? new int[] {2024, 1, 1} : unit == 'y' ? new int[] {2022, 4, 1}
                : new int[] {2024, 3, 18};
        wheel.date(1, from[0], from[1], from[2]);
        return wheel.between(0, 1, unit);
    }

    // Part 4

    private static void months() {
        Sentence told = Sentence.of("Part 4", "There are the slots 0 to 3, each with a month of a year, 1970-01 at "
                + "first, of the years that dates have.");
        told.onlySlots(4, (w, slot) -> w.monthPart(slot, 'y'));
        for (int slot = 0; slot < 4; slot++) {
            Yearwheel wheel = new Yearwheel();
            told.month(1970, 1, 31, wheel, slot);
            told.month(-9999, 1, wheel.month(slot, -9999, 1), wheel, slot);
            told.month(9999, 12, wheel.month(slot, 9999, 12), wheel, slot);
        }
        told.refused("ahead of the first year", Check.ARGUMENT, w -> w.month(0, -10000, 12));
        told.refused("behind the last year", Check.ARGUMENT, w -> w.month(0, 10000, 1));
        told.refused("moved ahead of the first year", Check.UNSUPPORTED, w -> w.moveMonth(1, 'm', -1, 0));
        told.refused("moved behind the last year", Check.UNSUPPORTED, w -> w.moveMonth(2, 'm', 1, 0));
    }

    // Part 5

    private static void times() {
        Sentence told = Sentence.of("Part 5", "There are the slots 0 to 3, each with a time of the day, 0 at first: "
                + "hours, minutes, seconds, billionths, or all as one number of billionths, of a day of 24 hours.");
        told.onlySlots(4, (w, slot) -> w.timePart(slot, 'h'));
        for (int slot = 0; slot < 4; slot++) {
            Yearwheel wheel = new Yearwheel();
            told.time(0, 0, 0, 0, 0, wheel, slot);
            told.time(23, 59, 59, 999999999, wheel.time(slot, 23, 59, 59, 999999999), wheel, slot);
            told.time(0, 0, 0, 0, wheel.moveTime(slot, 'n', 1, slot), wheel, slot);
            told.same("as one number", 23, wheel.ofBillionths(slot, DAY - 1));
            told.time(23, 59, 59, 999999999, DAY - 1, wheel, slot);
        }
        told.refused("hour 24", Check.ARGUMENT, w -> w.time(0, 24, 0, 0, 0));
        told.refused("all billionths of a day", Check.ARGUMENT, w -> w.ofBillionths(0, DAY));
    }

    private static void cutting() {
        Sentence told = Sentence.of("Part 5", "Cut to hours 'h', minutes 'm', seconds 's' or days 'd' a time has 0 in "
                + "all that is finer.");
        Yearwheel wheel = new Yearwheel();
        wheel.time(0, 23, 59, 59, 999999999);
        told.time(23, 0, 0, 0, wheel.cutTime(0, 'h', 1), wheel, 1);
        told.time(23, 59, 0, 0, wheel.cutTime(0, 'm', 1), wheel, 1);
        told.time(23, 59, 59, 0, wheel.cutTime(0, 's', 1), wheel, 1);
        told.time(0, 0, 0, 0, wheel.cutTime(0, 'd', 1), wheel, 1);
        wheel.time(0, 0, 0, 0, 999999999);
        for (char unit : "hmsd".toCharArray()) {
            told.time(0, 0, 0, 0, wheel.cutTime(0, unit, 1), wheel, 1);
        }
        wheel.time(0, 7, 0, 0, 0);
        told.time(7, 0, 0, 0, wheel.cutTime(0, 'h', 0), wheel, 0);
    }

    private static void lengths() {
        long most = 1000000000000L;
        Sentence told = Sentence.of("Part 5", "There are the slots 0 to 3, each with a length, 0 at first: seconds, "
                + "and 0 to 999999999 billionths more, at most 10 to the power of 12 seconds either way, billionths "
                + "counted;");
        told.onlySlots(4, (w, slot) -> w.lengthPart(slot, 's'));
        for (int slot = 0; slot < 4; slot++) {
            Yearwheel wheel = new Yearwheel();
            told.length(0, 0, 0, wheel, slot);
            told.length(0, 999999999, wheel.length(slot, 0, 999999999), wheel, slot);
            told.length(1, 0, wheel.length(slot, 0, 1000000000), wheel, slot);
            told.length(-1, 999999999, wheel.length(slot, 0, -1), wheel, slot);
            told.length(-1, 0, wheel.length(slot, 0, -1000000000), wheel, slot);
            told.length(-2, 999999999, wheel.length(slot, 0, -1000000001), wheel, slot);
            told.length(most, 0, wheel.length(slot, most, 0), wheel, slot);
            told.length(most - 1, 999999999, wheel.length(slot, most, -1), wheel, slot);
            told.length(-most, 0, wheel.length(slot, -most, 0), wheel, slot);
            told.length(-most, 1, wheel.length(slot, -most, 1), wheel, slot);
        }
        Sentence refused = Sentence.of("Part 5", "what would be more is refused.");
        refused.refused("a billionth more", Check.UNSUPPORTED, w -> w.length(0, most, 1));
        refused.refused("a billionth more the other way", Check.UNSUPPORTED, w -> w.length(0, -most, -1));
        refused.refused("a sum", Check.UNSUPPORTED, w -> w.addLength(0, 3, false, 0));
        refused.refused("a difference", Check.UNSUPPORTED, w -> w.addLength(1, 3, true, 0));
        refused.refused("a product", Check.UNSUPPORTED, w -> w.timesLength(0, 2, 0));
        Yearwheel wheel = new Yearwheel();
        wheel.length(0, -most, 0);
        wheel.length(1, 0, 1);
        refused.length(-most, 1, wheel.addLength(0, 1, false, 2), wheel, 2);
        refused.refusedOn("by a billionth", Check.UNSUPPORTED, wheel, w -> w.addLength(0, 1, true, 2));
    }

    private static void lengthsBelow() {
        Sentence told = Sentence.of("Part 5", "The length from a time, or a moment, to another one is below 0 if that "
                + "one is ahead.");
        Yearwheel wheel = new Yearwheel();
        wheel.time(1, 0, 0, 0, 1);
        told.length(-1, 999999999, wheel.lengthOfTimes(1, 0, 0), wheel, 0);
        told.length(0, 1, wheel.lengthOfTimes(0, 1, 0), wheel, 0);
        told.length(0, 0, wheel.lengthOfTimes(1, 1, 0), wheel, 0);
        wheel.moment(1, 0, 1);
        told.length(-1, 999999999, wheel.lengthOfMoments(1, 0, 0), wheel, 0);
        told.length(0, 1, wheel.lengthOfMoments(0, 1, 0), wheel, 0);
        told.length(0, 0, wheel.lengthOfMoments(1, 1, 0), wheel, 0);
        wheel.moveMoment(0, 'd', -1, 2);
        told.length(-86401, 999999999, wheel.lengthOfMoments(1, 2, 0), wheel, 0);
        told.length(86400, 1, wheel.lengthOfMoments(2, 1, 0), wheel, 0);
    }

    private static void roundTheDay() {
        Sentence told = Sentence.of("Part 5", "A time goes on, or back, by a length round the day.");
        Yearwheel wheel = new Yearwheel();
        wheel.time(0, 23, 59, 59, 999999999);
        wheel.length(0, 0, 1);
        told.time(0, 0, 0, 0, wheel.goTime(0, 0, false, 1), wheel, 1);
        told.time(23, 59, 59, 999999999, wheel.goTime(1, 0, true, 2), wheel, 2);
        wheel.length(0, 86400, 0);
        told.time(23, 59, 59, 999999999, wheel.goTime(0, 0, false, 2), wheel, 2);
        told.time(23, 59, 59, 999999999, wheel.goTime(0, 0, true, 2), wheel, 2);
        wheel.length(0, -86401, 999999999);
        told.time(0, 0, 0, 0, wheel.goTime(0, 0, true, 2), wheel, 2);
        wheel.length(0, 1000000000000L, 0);
        told.time(1, 46, 40, 0, wheel.goTime(1, 0, false, 2), wheel, 2);
        told.time(22, 13, 20, 0, wheel.goTime(1, 0, true, 2), wheel, 2);
    }

    // Part 6

    private static void moments() {
        Sentence told = Sentence.of("Part 6", "There are the slots 0 to 3, each with a date and a time, 1970-01-01 and "
                + "0 at first.");
        told.onlySlots(4, (w, slot) -> w.dateOf(slot, 0));
        told.onlySlots(4, (w, slot) -> w.timeOf(slot, 0));
        for (int slot = 0; slot < 4; slot++) {
            Yearwheel wheel = new Yearwheel();
            told.moment(1970, 1, 1, 0, 0, wheel, slot);
            Yearwheel ends = Check.stirred();
            told.moment(9999, 12, 31, DAY - 1, ends.moment(slot, 2, 2), ends, slot);
            told.moment(-9999, 1, 1, 0, ends.moment(slot, 1, 1), ends, slot);
        }
    }

    private static void movingMoments() {
        Sentence date = Sentence.of("Part 6", "By years, months, weeks and days the date moves;");
        Yearwheel wheel = new Yearwheel();
        wheel.date(0, 2024, 2, 29);
        wheel.time(0, 23, 59, 59, 999999999);
        wheel.moment(0, 0, 0);
        date.moment(2025, 2, 28, DAY - 1, wheel.moveMoment(0, 'y', 1, 1), wheel, 1);
        date.moment(2024, 1, 29, DAY - 1, wheel.moveMoment(0, 'm', -1, 1), wheel, 1);
        date.moment(2024, 3, 7, DAY - 1, wheel.moveMoment(0, 'w', 1, 1), wheel, 1);
        date.moment(2024, 3, 1, DAY - 1, wheel.moveMoment(0, 'd', 1, 1), wheel, 1);
        Sentence on = Sentence.of("Part 6", "by hours 'h', minutes 'i', seconds 's' and billionths 'n' the moment goes "
                + "on through days.");
        wheel.time(0, 23, 59, 59, 999999999);
        wheel.moment(0, 0, 0);
        on.moment(2024, 3, 1, 0, wheel.moveMoment(0, 'n', 1, 1), wheel, 1);
        on.moment(2024, 3, 1, 999999999, wheel.moveMoment(0, 's', 1, 1), wheel, 1);
        on.moment(2024, 3, 1, 59999999999L, wheel.moveMoment(0, 'i', 1, 1), wheel, 1);
        on.moment(2024, 3, 1, 3599999999999L, wheel.moveMoment(0, 'h', 1, 1), wheel, 1);
        on.moment(2024, 3, 1, DAY - 1, wheel.moveMoment(0, 'h', 24, 1), wheel, 1);
        wheel.time(0, 0, 0, 0, 0);
        wheel.date(0, 2024, 3, 1);
        wheel.moment(0, 0, 0);
        on.moment(2024, 2, 29, DAY - 1, wheel.moveMoment(0, 'n', -1, 1), wheel, 1);
        on.moment(2024, 2, 29, 86399000000000L, wheel.moveMoment(0, 's', -1, 1), wheel, 1);
        on.moment(2024, 2, 29, 86340000000000L, wheel.moveMoment(0, 'i', -1, 1), wheel, 1);
        on.moment(2024, 2, 29, 82800000000000L, wheel.moveMoment(0, 'h', -1, 1), wheel, 1);
        on.moment(2024, 2, 29, 0, wheel.moveMoment(0, 'i', -1440, 1), wheel, 1);
        on.moment(2024, 2, 28, DAY - 1, wheel.moveMoment(0, 'n', -DAY - 1, 1), wheel, 1);
    }

    private static void wholeOfMoments() {
        Sentence fine = Sentence.of("Part 6", "Whole hours, minutes and seconds between two moments are those of the "
                + "length, cut toward 0;");
        Yearwheel wheel = new Yearwheel();
        long[][] lengths = {{3599, 999999999, 0, 59, 3599}, {3600, 0, 1, 60, 3600}, {59, 999999999, 0, 0, 59},
                {60, 0, 0, 1, 60}, {0, 999999999, 0, 0, 0}, {1, 0, 0, 0, 1}, {0, 0, 0, 0, 0},
                {86400, 0, 24, 1440, 86400}, {86399, 999999999, 23, 1439, 86399}};
        for (long[] each : lengths) {
            // On both sides of a midnight.
            wheel.moveMoment(0, 'n', -5, 1);
            wheel.length(0, each[0], each[1]);
            wheel.goMoment(1, 0, false, 2);
            for (int unit = 0; unit < 3; unit++) {
                fine.same("on by " + "his".charAt(unit), each[2 + unit], wheel.whole(1, 2, "his".charAt(unit)));
                fine.same("back by " + "his".charAt(unit), -each[2 + unit], wheel.whole(2, 1, "his".charAt(unit)));
            }
        }
        Sentence days = Sentence.of("Part 6", "whole days as many as the dates are apart, one less if the time of the "
                + "later moment is less than that of the earlier one.");
        wheel.time(0, 12, 0, 0, 0);
        wheel.moment(0, 0, 0);
        for (long more : new long[] {-1, 0, 1}) {
            for (int apart = 1; apart <= 3; apart++) {
                wheel.moveMoment(0, 'd', apart, 1);
                wheel.moveMoment(1, 'n', more, 1);
                int due = more < 0 ? apart - 1 : apart;
                days.same("on", due, wheel.whole(0, 1, 'd'));
                days.same("back", -due, wheel.whole(1, 0, 'd'));
            }
            wheel.moveMoment(0, 'n', more, 1);
            days.same("in one day", 0, wheel.whole(0, 1, 'd'));
        }
    }
}
