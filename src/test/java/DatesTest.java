import java.time.DayOfWeek;
import java.time.LocalDate;
import java.time.MonthDay;
import java.time.temporal.ChronoUnit;
import java.time.temporal.TemporalAdjusters;

/** Promises 2 to 13. */
public final class DatesTest {
    private static final int[] YEARS = {-9999, -9998, -401, -400, -101, -100, -4, -1, 0, 1, 4, 1582, 1899, 1900, 1969,
            1970, 1999, 2000, 2001, 2023, 2024, 2100, 9996, 9998, 9999};
    private static final long FIRST = LocalDate.of(-9999, 1, 1).toEpochDay();
    private static final long LAST = LocalDate.of(9999, 12, 31).toEpochDay();

    public static void main(String[] args) {
        date();
        noSuchDate();
        ofDay();
        day();
        part();
        moveByDays();
        moveByMonths();
        moveRefused();
        with();
        withRefused();
        adjust();
        weekday();
        inMonth();
        atYear();
        order();
        between();
        betweenAll();
        Check.end("DatesTest");
    }

    private static long number(int year, int month, int day) {
        return LocalDate.of(year, month, day).toEpochDay();
    }

    private static Yearwheel at(int year, int month, int day) {
        Yearwheel wheel = new Yearwheel();
        wheel.date(0, year, month, day);
        return wheel;
    }

    private static Yearwheel at(LocalDate date) {
        return at(date.getYear(), date.getMonthValue(), date.getDayOfMonth());
    }

    /** What the call answers is there, and nowhere else. */
    private static void came(String what, long due, long got, Yearwheel wheel, int to) {
        Check.same(what, due, got);
        Check.same(what + ", its slot", due, wheel.day(to));
    }

    private static void date() {
        came("2 the first day", 0, at(1970, 1, 1).day(0), at(1970, 1, 1), 0);
        Yearwheel wheel = new Yearwheel();
        came("2 a long February", 18321, wheel.date(3, 2020, 2, 29), wheel, 3);
        came("2 the year 0 is a long one", -719469, wheel.date(0, 0, 2, 29), wheel, 0);
        came("2 the first of all", -4371587, wheel.date(5, -9999, 1, 1), wheel, 5);
        came("2 the last of all", 2932896, wheel.date(4, 9999, 12, 31), wheel, 4);
        Check.same("2 the others stay", 0, wheel.day(1));
        for (int year : YEARS) {
            for (int month = 1; month <= 12; month++) {
                int length = LocalDate.of(year, month, 1).lengthOfMonth();
                for (int day : new int[] {1, 2, 15, length - 1, length}) {
                    Check.same("2 " + year + "-" + month + "-" + day, number(year, month, day),
                            new Yearwheel().date(2, year, month, day));
                }
            }
        }
    }

    private static void noSuchDate() {
        Check.onlySlots("2 date", 6, (w, slot) -> w.date(slot, 2020, 1, 1));
        Check.refused("2 the slot is looked at first", Check.INDEX, w -> w.date(6, 10000, 13, 32));
        int[][] none = {{2023, 2, 29}, {1900, 2, 29}, {-100, 2, 29}, {2020, 2, 30}, {2020, 4, 31}, {2020, 6, 31},
                {2020, 9, 31}, {2020, 11, 31}, {2020, 1, 32}, {2020, 12, 32}, {2020, 1, 0}, {2020, 1, -1},
                {2020, 0, 1}, {2020, 13, 1}, {2020, -1, 1}, {10000, 1, 1}, {-10000, 12, 31},
                {Integer.MAX_VALUE, 1, 1}, {Integer.MIN_VALUE, 1, 1}, {2020, Integer.MAX_VALUE, 1},
                {2020, Integer.MIN_VALUE, 1}, {2020, 1, Integer.MAX_VALUE}, {2020, 1, Integer.MIN_VALUE}};
        for (int[] each : none) {
            Check.refused("2 no date " + each[0] + "-" + each[1] + "-" + each[2], Check.ARGUMENT,
                    w -> w.date(0, each[0], each[1], each[2]));
        }
        for (int month = 1; month <= 12; month++) {
            int each = month;
            int length = LocalDate.of(2023, month, 1).lengthOfMonth();
            Check.refused("2 too far in month " + month, Check.ARGUMENT, w -> w.date(1, 2023, each, length + 1));
        }
    }

    private static void ofDay() {
        Yearwheel wheel = new Yearwheel();
        Check.same("3 ofDay 0", 1970, wheel.ofDay(3, 0));
        Check.same("3 ofDay -1", 1969, wheel.ofDay(3, -1));
        Check.same("3 the day ahead", -1, wheel.day(3));
        Check.same("3 the year 0", 0, wheel.ofDay(2, number(0, 1, 1)));
        Check.same("3 ahead of the year 0", -1, wheel.ofDay(1, number(0, 1, 1) - 1));
        Check.same("3 the first day", -9999, wheel.ofDay(0, FIRST));
        Check.same("3 the last day", 9999, wheel.ofDay(5, LAST));
        Check.same("3 the first day is kept", FIRST, wheel.day(0));
        Check.same("3 the last day is kept", LAST, wheel.day(5));
        Check.onlySlots("3 ofDay", 6, (w, slot) -> w.ofDay(slot, 0));
        Check.refused("3 the slot is looked at first", Check.INDEX, w -> w.ofDay(-1, LAST + 1));
        Check.refusedNumbers("3 ofDay", Check.UNSUPPORTED, (w, n) -> w.ofDay(0, n), FIRST - 1, LAST + 1,
                Long.MIN_VALUE, Long.MAX_VALUE, 1L << 32, -(1L << 32));
    }

    private static void day() {
        for (int slot = 0; slot < 6; slot++) {
            Yearwheel wheel = new Yearwheel();
            wheel.date(slot, 2001, 2, 3);
            for (int other = 0; other < 6; other++) {
                Check.same("4 day", other == slot ? number(2001, 2, 3) : 0, wheel.day(other));
            }
        }
        Check.onlySlots("4 day", 6, (w, slot) -> w.day(slot));
    }

    private static void part() {
        Yearwheel leap = at(2020, 2, 29);
        Check.same("5 the day of the year", 60, leap.part(0, 'n'));
        Check.same("5 a Saturday", 6, leap.part(0, 'w'));
        Check.same("5 long", 1, leap.part(0, 'b'));
        Check.same("5 the first date is a Thursday", 4, new Yearwheel().part(5, 'w'));
        for (int year : YEARS) {
            for (int day = 1; day <= (LocalDate.of(year, 1, 1).isLeapYear() ? 366 : 365); day++) {
                partsOf(LocalDate.ofYearDay(year, day));
            }
        }
        Check.onlySlots("5 part", 6, (w, slot) -> w.part(slot, 'y'));
        Check.refused("5 the slot is looked at first", Check.INDEX, w -> w.part(6, 'x'));
        Check.refusedSigns("5 part", "ymdnwlLb", (w, sign) -> w.part(0, sign));
    }

    private static void partsOf(LocalDate date) {
        Yearwheel wheel = at(date);
        Check.same("5 y " + date, date.getYear(), wheel.part(0, 'y'));
        Check.same("5 m " + date, date.getMonthValue(), wheel.part(0, 'm'));
        Check.same("5 d " + date, date.getDayOfMonth(), wheel.part(0, 'd'));
        Check.same("5 n " + date, date.getDayOfYear(), wheel.part(0, 'n'));
        Check.same("5 w " + date, date.getDayOfWeek().getValue(), wheel.part(0, 'w'));
        Check.same("5 l " + date, date.lengthOfMonth(), wheel.part(0, 'l'));
        Check.same("5 L " + date, date.lengthOfYear(), wheel.part(0, 'L'));
        Check.same("5 b " + date, date.isLeapYear() ? 1 : 0, wheel.part(0, 'b'));
    }

    private static void moveByDays() {
        Yearwheel wheel = at(2020, 2, 28);
        came("6 a day", number(2020, 2, 29), wheel.move(0, 'd', 1, 1), wheel, 1);
        came("6 two days", number(2020, 3, 1), wheel.move(0, 'd', 2, 1), wheel, 1);
        came("6 days back", number(2019, 12, 31), wheel.move(0, 'd', -59, 1), wheel, 1);
        came("6 a week", number(2020, 3, 6), wheel.move(0, 'w', 1, 2), wheel, 2);
        came("6 weeks back", number(2020, 2, 14), wheel.move(0, 'w', -2, 2), wheel, 2);
        came("6 by none", number(2020, 2, 28), wheel.move(0, 'd', 0, 3), wheel, 3);
        came("6 a million days", number(2020, 2, 28) + 1000000, wheel.move(0, 'd', 1000000, 3), wheel, 3);
        came("6 a million days back", number(2020, 2, 28) - 1000000, wheel.move(0, 'd', -1000000, 3), wheel, 3);
        Check.same("6 the slot itself stays", number(2020, 2, 28), wheel.day(0));
        came("6 in place", number(2020, 2, 27), wheel.move(0, 'd', -1, 0), wheel, 0);
        came("6 to the last day", LAST, at(9999, 12, 30).move(0, 'd', 1, 0), at(9999, 12, 31), 0);
        came("6 to the first day", FIRST, at(-9999, 1, 8).move(0, 'w', -1, 0), at(-9999, 1, 1), 0);
    }

    private static void moveByMonths() {
        LocalDate[] dates = {LocalDate.of(2023, 1, 31), LocalDate.of(2024, 1, 30), LocalDate.of(2020, 2, 29),
                LocalDate.of(0, 1, 1), LocalDate.of(-1, 12, 31), LocalDate.of(1899, 8, 31), LocalDate.of(2000, 5, 15)};
        for (LocalDate date : dates) {
            for (int amount = -60; amount <= 60; amount++) {
                Yearwheel wheel = at(date);
                came("6 months from " + date + " by " + amount, date.plusMonths(amount).toEpochDay(),
                        wheel.move(0, 'm', amount, 1), wheel, 1);
                came("6 years from " + date + " by " + amount, date.plusYears(amount).toEpochDay(),
                        wheel.move(0, 'y', amount, 2), wheel, 2);
            }
        }
        Yearwheel wheel = at(2020, 2, 29);
        came("6 a year from a leap day", number(2021, 2, 28), wheel.move(0, 'y', 1, 1), wheel, 1);
        came("6 four years", number(2024, 2, 29), wheel.move(0, 'y', 4, 1), wheel, 1);
        came("6 to the year -9999", number(-9999, 2, 28), wheel.move(0, 'y', -12019, 1), wheel, 1);
        came("6 to the last month", number(9999, 12, 29), wheel.move(0, 'm', 95758, 1), wheel, 1);
        came("6 to the first month", number(-9999, 1, 29), wheel.move(0, 'm', -144229, 1), wheel, 1);
    }

    private static void moveRefused() {
        Check.onlySlots("6 move", 6, (w, slot) -> w.move(slot, 'd', 1, 0));
        Check.onlySlots("6 move", 6, (w, slot) -> w.move(0, 'd', 1, slot));
        Check.refused("6 the slots are looked at first", Check.INDEX, w -> w.move(0, 'x', 1000001, 6));
        Check.refusedSigns("6 move", "dwmy", (w, sign) -> w.move(0, sign, 1, 0));
        for (char unit : "dwmy".toCharArray()) {
            Check.refusedNumbers("6 move", Check.ARGUMENT, (w, n) -> w.move(0, unit, (int) n, 0), 1000001, -1000001,
                    Integer.MAX_VALUE, Integer.MIN_VALUE);
            Check.refused("6 behind the last", Check.UNSUPPORTED, w -> w.move(2, unit, 1, 0));
            Check.refused("6 ahead of the first", Check.UNSUPPORTED, w -> w.move(1, unit, -1, 0));
        }
        Check.refused("6 too many weeks", Check.UNSUPPORTED, w -> w.move(0, 'w', 1000000, 0));
        Check.refused("6 too many weeks back", Check.UNSUPPORTED, w -> w.move(0, 'w', -1000000, 0));
        Check.refused("6 too many months", Check.UNSUPPORTED, w -> w.move(0, 'm', 95759, 0));
        Check.refused("6 too many months back", Check.UNSUPPORTED, w -> w.move(0, 'm', -144230, 0));
        Check.refused("6 too many years", Check.UNSUPPORTED, w -> w.move(0, 'y', 7980, 0));
        Check.refused("6 far too many years", Check.UNSUPPORTED, w -> w.move(0, 'y', 1000000, 0));
        Check.refused("6 far too many years back", Check.UNSUPPORTED, w -> w.move(0, 'y', -1000000, 0));
        Check.refused("6 the number ahead of the outcome", Check.ARGUMENT, w -> w.move(2, 'd', 1000001, 0));
        Check.refused("6 the unit ahead of the outcome", Check.ARGUMENT, w -> w.move(2, 'D', 1, 0));
    }

    private static void with() {
        Yearwheel wheel = at(2023, 1, 31);
        came("7 another day", number(2023, 1, 5), wheel.with(0, 'd', 5, 1), wheel, 1);
        came("7 the last day", number(2023, 1, 31), wheel.with(0, 'd', 31, 1), wheel, 1);
        came("7 the first day", number(2023, 1, 1), wheel.with(0, 'd', 1, 1), wheel, 1);
        came("7 a day of the year", number(2023, 12, 31), wheel.with(0, 'n', 365, 2), wheel, 2);
        came("7 the first of the year", number(2023, 1, 1), wheel.with(0, 'n', 1, 2), wheel, 2);
        came("7 a shorter month", number(2023, 2, 28), wheel.with(0, 'm', 2, 3), wheel, 3);
        came("7 the last month", number(2023, 12, 31), wheel.with(0, 'm', 12, 3), wheel, 3);
        came("7 another year", number(-9999, 1, 31), wheel.with(0, 'y', -9999, 4), wheel, 4);
        came("7 the last year", number(9999, 1, 31), wheel.with(0, 'y', 9999, 4), wheel, 4);
        Check.same("7 the slot itself stays", number(2023, 1, 31), wheel.day(0));
        Yearwheel leap = at(2020, 2, 29);
        came("7 day 366", number(2020, 12, 31), leap.with(0, 'n', 366, 1), leap, 1);
        came("7 a year that is not long", number(1900, 2, 28), leap.with(0, 'y', 1900, 1), leap, 1);
        came("7 a long year", number(0, 2, 29), leap.with(0, 'y', 0, 1), leap, 1);
        came("7 a longer month", number(2020, 3, 29), leap.with(0, 'm', 3, 1), leap, 1);
        for (LocalDate date = LocalDate.of(2023, 11, 20); date.getYear() < 2025; date = date.plusDays(7)) {
            Yearwheel each = at(date);
            for (int month = 1; month <= 12; month++) {
                came("7 m", date.withMonth(month).toEpochDay(), each.with(0, 'm', month, 1), each, 1);
            }
            came("7 y", date.withYear(2023).toEpochDay(), each.with(0, 'y', 2023, 2), each, 2);
            came("7 n", date.withDayOfYear(60).toEpochDay(), each.with(0, 'n', 60, 2), each, 2);
        }
    }

    private static void withRefused() {
        Check.onlySlots("7 with", 6, (w, slot) -> w.with(slot, 'd', 1, 0));
        Check.onlySlots("7 with", 6, (w, slot) -> w.with(0, 'd', 1, slot));
        Check.refused("7 the slots are looked at first", Check.INDEX, w -> w.with(6, 'x', 0, 0));
        Check.refusedSigns("7 with", "dnmy", (w, sign) -> w.with(0, sign, 1, 1));
        Check.refusedNumbers("7 with a day", Check.ARGUMENT, (w, n) -> w.with(0, 'd', (int) n, 1), 0, -1, 30, 31, 32,
                Integer.MAX_VALUE, Integer.MIN_VALUE);
        Check.refusedNumbers("7 with a day of the year", Check.ARGUMENT, (w, n) -> w.with(0, 'n', (int) n, 1), 0, -1,
                367, Integer.MAX_VALUE, Integer.MIN_VALUE);
        Check.refused("7 no day 366", Check.ARGUMENT, w -> w.with(3, 'n', 366, 1));
        Check.refused("7 no day 29", Check.ARGUMENT, w -> w.with(4, 'd', 29, 1));
        Check.refusedNumbers("7 with a month", Check.ARGUMENT, (w, n) -> w.with(0, 'm', (int) n, 1), 0, -1, 13,
                Integer.MAX_VALUE, Integer.MIN_VALUE);
        Check.refusedNumbers("7 with a year", Check.ARGUMENT, (w, n) -> w.with(0, 'y', (int) n, 1), 10000, -10000,
                Integer.MAX_VALUE, Integer.MIN_VALUE);
    }

    private static void adjust() {
        for (int year : new int[] {-9999, -1, 0, 1900, 2020, 2023, 9998}) {
            for (int day = 1; day <= 365; day++) {
                LocalDate date = LocalDate.ofYearDay(year, day);
                Yearwheel wheel = at(date);
                came("8 f", date.withDayOfMonth(1).toEpochDay(), wheel.adjust(0, 'f', 1), wheel, 1);
                came("8 l", date.with(TemporalAdjusters.lastDayOfMonth()).toEpochDay(), wheel.adjust(0, 'l', 2),
                        wheel, 2);
                came("8 n", date.with(TemporalAdjusters.firstDayOfNextMonth()).toEpochDay(), wheel.adjust(0, 'n', 3),
                        wheel, 3);
                came("8 F", number(year, 1, 1), wheel.adjust(0, 'F', 4), wheel, 4);
                came("8 L", number(year, 12, 31), wheel.adjust(0, 'L', 5), wheel, 5);
                Check.same("8 the slot itself stays", date.toEpochDay(), wheel.day(0));
                came("8 N", number(year + 1, 1, 1), wheel.adjust(0, 'N', 0), wheel, 0);
            }
        }
        Yearwheel last = at(9999, 12, 15);
        came("8 the last day of all", LAST, last.adjust(0, 'l', 1), last, 1);
        came("8 the last day of the last year", LAST, last.adjust(0, 'L', 1), last, 1);
        came("8 the last month but one", number(9999, 12, 1), at(9999, 11, 3).adjust(0, 'n', 1), at(9999, 12, 1), 0);
        Check.onlySlots("8 adjust", 6, (w, slot) -> w.adjust(slot, 'f', 0));
        Check.onlySlots("8 adjust", 6, (w, slot) -> w.adjust(0, 'f', slot));
        Check.refused("8 the slots are looked at first", Check.INDEX, w -> w.adjust(0, 'x', 6));
        Check.refusedSigns("8 adjust", "flnFLN", (w, sign) -> w.adjust(2, sign, 1));
        Check.refused("8 behind the last month", Check.UNSUPPORTED, w -> w.adjust(2, 'n', 1));
        Check.refused("8 behind the last year", Check.UNSUPPORTED, w -> w.adjust(2, 'N', 1));
    }

    private static void weekday() {
        for (LocalDate date = LocalDate.of(2023, 12, 20); date.isBefore(LocalDate.of(2024, 3, 10));
                date = date.plusDays(1)) {
            weekdaysOf(date);
        }
        for (LocalDate date = LocalDate.of(-1, 12, 20); date.isBefore(LocalDate.of(0, 3, 10));
                date = date.plusDays(1)) {
            weekdaysOf(date);
        }
        Check.onlySlots("9 weekday", 6, (w, slot) -> w.weekday(slot, 'n', 1, 0));
        Check.onlySlots("9 weekday", 6, (w, slot) -> w.weekday(0, 'n', 1, slot));
        Check.refused("9 the slots are looked at first", Check.INDEX, w -> w.weekday(6, 'x', 8, 0));
        Check.refusedSigns("9 weekday", "npNPfl", (w, sign) -> w.weekday(0, sign, 3, 1));
        for (char how : "npNPfl".toCharArray()) {
            Check.refusedNumbers("9 weekday", Check.ARGUMENT, (w, n) -> w.weekday(0, how, (int) n, 1), 0, -1, 8,
                    Integer.MAX_VALUE, Integer.MIN_VALUE);
        }
        Check.same("9 the last date", 5, at(9999, 12, 31).part(0, 'w'));
        int first = LocalDate.of(-9999, 1, 1).getDayOfWeek().getValue();
        Check.same("9 the first date", first, at(-9999, 1, 1).part(0, 'w'));
        for (int weekday = 1; weekday <= 7; weekday++) {
            int each = weekday;
            Check.refused("9 behind the last", Check.UNSUPPORTED, w -> w.weekday(2, 'n', each, 0));
            Check.refused("9 ahead of the first", Check.UNSUPPORTED, w -> w.weekday(1, 'p', each, 0));
            if (weekday != 5) {
                Check.refused("9 behind the last too", Check.UNSUPPORTED, w -> w.weekday(2, 'N', each, 0));
            }
            if (weekday != first) {
                Check.refused("9 ahead of the first too", Check.UNSUPPORTED, w -> w.weekday(1, 'P', each, 0));
            }
        }
        came("9 the last one stays", LAST, at(9999, 12, 31).weekday(0, 'N', 5, 0), at(9999, 12, 31), 0);
        came("9 the first one stays", FIRST, at(-9999, 1, 1).weekday(0, 'P', first, 0), at(-9999, 1, 1), 0);
        Check.refused("9 the weekday ahead of the outcome", Check.ARGUMENT, w -> w.weekday(2, 'n', 8, 0));
    }

    private static void weekdaysOf(LocalDate date) {
        for (int weekday = 1; weekday <= 7; weekday++) {
            DayOfWeek day = DayOfWeek.of(weekday);
            Yearwheel wheel = at(date);
            came("9 n " + date, date.with(TemporalAdjusters.next(day)).toEpochDay(),
                    wheel.weekday(0, 'n', weekday, 1), wheel, 1);
            came("9 p " + date, date.with(TemporalAdjusters.previous(day)).toEpochDay(),
                    wheel.weekday(0, 'p', weekday, 2), wheel, 2);
            came("9 N " + date, date.with(TemporalAdjusters.nextOrSame(day)).toEpochDay(),
                    wheel.weekday(0, 'N', weekday, 3), wheel, 3);
            came("9 P " + date, date.with(TemporalAdjusters.previousOrSame(day)).toEpochDay(),
                    wheel.weekday(0, 'P', weekday, 4), wheel, 4);
            came("9 f " + date, date.with(TemporalAdjusters.firstInMonth(day)).toEpochDay(),
                    wheel.weekday(0, 'f', weekday, 5), wheel, 5);
            Check.same("9 the slot itself stays", date.toEpochDay(), wheel.day(0));
            came("9 l " + date, date.with(TemporalAdjusters.lastInMonth(day)).toEpochDay(),
                    wheel.weekday(0, 'l', weekday, 0), wheel, 0);
        }
    }

    private static void inMonth() {
        Yearwheel january = at(2023, 1, 31);
        came("10 the last Monday", number(2023, 1, 30), january.inMonth(0, -1, 1, 3), january, 3);
        came("10 the first Monday", number(2023, 1, 2), january.inMonth(0, 1, 1, 3), january, 3);
        came("10 a week ahead of it", number(2022, 12, 26), january.inMonth(0, 0, 1, 3), january, 3);
        came("10 the sixth Monday is in the next month", number(2023, 2, 6), january.inMonth(0, 6, 1, 3), january, 3);
        came("10 the sixth from the end", number(2022, 12, 26), january.inMonth(0, -6, 1, 3), january, 3);
        for (LocalDate date = LocalDate.of(2023, 11, 11); date.getYear() < 2026; date = date.plusDays(17)) {
            for (int weekday = 1; weekday <= 7; weekday++) {
                Yearwheel wheel = at(date);
                for (int n = -6; n <= 6; n++) {
                    long due = date.with(TemporalAdjusters.dayOfWeekInMonth(n, DayOfWeek.of(weekday))).toEpochDay();
                    came("10 inMonth " + date + " " + n + " " + weekday, due, wheel.inMonth(0, n, weekday, 1), wheel,
                            1);
                }
            }
        }
        Check.onlySlots("10 inMonth", 6, (w, slot) -> w.inMonth(slot, 1, 1, 0));
        Check.onlySlots("10 inMonth", 6, (w, slot) -> w.inMonth(0, 1, 1, slot));
        Check.refused("10 the slots are looked at first", Check.INDEX, w -> w.inMonth(0, 7, 8, 6));
        Check.refusedNumbers("10 inMonth", Check.ARGUMENT, (w, n) -> w.inMonth(0, (int) n, 1, 1), 7, -7,
                Integer.MAX_VALUE, Integer.MIN_VALUE);
        Check.refusedNumbers("10 a weekday", Check.ARGUMENT, (w, n) -> w.inMonth(0, 1, (int) n, 1), 0, 8, -1,
                Integer.MAX_VALUE, Integer.MIN_VALUE);
        Check.refused("10 behind the last", Check.UNSUPPORTED, w -> w.inMonth(2, 6, 1, 0));
        Check.refused("10 ahead of the first", Check.UNSUPPORTED, w -> w.inMonth(1, 0, 1, 0));
        Check.refused("10 ahead of the first from the end", Check.UNSUPPORTED, w -> w.inMonth(1, -6, 1, 0));
        Check.refused("10 the number ahead of the outcome", Check.ARGUMENT, w -> w.inMonth(2, 7, 1, 0));
    }

    private static void atYear() {
        Yearwheel wheel = new Yearwheel();
        came("11 the leap day", number(2020, 2, 29), wheel.atYear(2, 29, 2020, 3), wheel, 3);
        came("11 no leap day", 19416, wheel.atYear(2, 29, 2023, 4), wheel, 4);
        came("11 the first of all", FIRST, wheel.atYear(1, 1, -9999, 0), wheel, 0);
        came("11 the last of all", LAST, wheel.atYear(12, 31, 9999, 5), wheel, 5);
        for (int year : YEARS) {
            for (int month = 1; month <= 12; month++) {
                for (int day = 1; day <= java.time.Month.of(month).maxLength(); day++) {
                    Check.same("11 atYear", MonthDay.of(month, day).atYear(year).toEpochDay(),
                            new Yearwheel().atYear(month, day, year, 1));
                }
                int each = month;
                Check.refused("11 too far in month " + month, Check.ARGUMENT,
                        w -> w.atYear(each, java.time.Month.of(each).maxLength() + 1, 2020, 1));
            }
        }
        Check.onlySlots("11 atYear", 6, (w, slot) -> w.atYear(1, 1, 2020, slot));
        Check.refused("11 the slot is looked at first", Check.INDEX, w -> w.atYear(0, 0, 10000, 6));
        Check.refusedNumbers("11 a month", Check.ARGUMENT, (w, n) -> w.atYear((int) n, 1, 2020, 1), 0, 13, -1,
                Integer.MAX_VALUE, Integer.MIN_VALUE);
        Check.refusedNumbers("11 a day", Check.ARGUMENT, (w, n) -> w.atYear(2, (int) n, 2020, 1), 0, -1, 30,
                Integer.MAX_VALUE, Integer.MIN_VALUE);
        Check.refusedNumbers("11 a year", Check.ARGUMENT, (w, n) -> w.atYear(2, 29, (int) n, 1), 10000, -10000,
                Integer.MAX_VALUE, Integer.MIN_VALUE);
    }

    private static void order() {
        Yearwheel wheel = Check.stirred();
        for (int slot = 0; slot < 6; slot++) {
            for (int other = 0; other < 6; other++) {
                Check.same("12 order", Long.compare(wheel.day(slot), wheel.day(other)), wheel.order(slot, other));
            }
        }
        Check.same("12 the same", 0, new Yearwheel().order(0, 5));
        Check.onlySlots("12 order", 6, (w, slot) -> w.order(slot, 0));
        Check.onlySlots("12 order", 6, (w, slot) -> w.order(0, slot));
    }

    private static void between() {
        Yearwheel wheel = at(2023, 1, 31);
        wheel.date(1, 2023, 2, 28);
        wheel.date(2, 2024, 1, 30);
        wheel.date(3, 2024, 1, 31);
        Check.same("13 no month", 0, wheel.between(0, 1, 'm'));
        Check.same("13 days", 28, wheel.between(0, 1, 'd'));
        Check.same("13 days back", -28, wheel.between(1, 0, 'd'));
        Check.same("13 weeks", 4, wheel.between(0, 1, 'w'));
        Check.same("13 eleven months", 11, wheel.between(0, 2, 'm'));
        Check.same("13 no year", 0, wheel.between(0, 2, 'y'));
        Check.same("13 a year", 1, wheel.between(0, 3, 'y'));
        Check.same("13 a year back", -1, wheel.between(3, 0, 'y'));
        Check.same("13 months back", -11, wheel.between(2, 0, 'm'));
        Check.same("13 no month back", 0, wheel.between(3, 2, 'm'));
        Check.same("13 weeks cut toward 0", 0, wheel.between(3, 2, 'w'));
        Check.same("13 none", 0, wheel.between(3, 3, 'm'));
        Yearwheel wide = Check.stirred();
        Check.same("13 all the days", LAST - FIRST, wide.between(1, 2, 'd'));
        Check.same("13 all the years back", -19998, wide.between(2, 1, 'y'));
        Check.same("13 all the months", 19998 * 12 + 11, wide.between(1, 2, 'm'));
        Check.onlySlots("13 between", 6, (w, slot) -> w.between(slot, 0, 'd'));
        Check.onlySlots("13 between", 6, (w, slot) -> w.between(0, slot, 'd'));
        Check.refused("13 the slots are looked at first", Check.INDEX, w -> w.between(0, 6, 'x'));
        Check.refusedSigns("13 between", "dwmy", (w, sign) -> w.between(0, 1, sign));
    }

    private static void betweenAll() {
        LocalDate from = LocalDate.of(2023, 11, 25);
        for (int one = 0; one < 140; one++) {
            for (int other = 0; other < 140; other += 3) {
                LocalDate a = from.plusDays(one);
                LocalDate b = from.plusDays(other * 5L - 280);
                Yearwheel wheel = at(a);
                wheel.date(1, b.getYear(), b.getMonthValue(), b.getDayOfMonth());
                Check.same("13 d", ChronoUnit.DAYS.between(a, b), wheel.between(0, 1, 'd'));
                Check.same("13 w", ChronoUnit.WEEKS.between(a, b), wheel.between(0, 1, 'w'));
                Check.same("13 m " + a + " " + b, ChronoUnit.MONTHS.between(a, b), wheel.between(0, 1, 'm'));
                Check.same("13 y " + a + " " + b, ChronoUnit.YEARS.between(a, b), wheel.between(0, 1, 'y'));
            }
        }
    }
}
