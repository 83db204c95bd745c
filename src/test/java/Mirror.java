import java.time.DateTimeException;
import java.time.DayOfWeek;
import java.time.Duration;
import java.time.LocalDate;
import java.time.LocalDateTime;
import java.time.LocalTime;
import java.time.MonthDay;
import java.time.Period;
import java.time.Year;
import java.time.YearMonth;
import java.time.temporal.ChronoUnit;
import java.time.temporal.TemporalAdjuster;
import java.time.temporal.TemporalAdjusters;

/** The wheel's calls over java.time, whose answers the document promises. */
public final class Mirror {
    private static final long CLOCK = 1000000000000000L;
    private static final Duration MOST = Duration.ofSeconds(1000000000000L);

    private final LocalDate[] dates = new LocalDate[6];
    private final Period[] spans = new Period[4];
    private final YearMonth[] months = new YearMonth[4];
    private final LocalTime[] times = new LocalTime[4];
    private final Duration[] lengths = new Duration[4];
    private final LocalDateTime[] moments = new LocalDateTime[4];

    public Mirror() {
        java.util.Arrays.fill(dates, LocalDate.EPOCH);
        java.util.Arrays.fill(spans, Period.ZERO);
        java.util.Arrays.fill(months, YearMonth.of(1970, 1));
        java.util.Arrays.fill(times, LocalTime.MIDNIGHT);
        java.util.Arrays.fill(lengths, Duration.ZERO);
        java.util.Arrays.fill(moments, LocalDate.EPOCH.atStartOfDay());
    }

    private static void dateSlots(int... slots) {
        for (int slot : slots) {
            if (slot < 0 || slot > 5) {
                throw new IndexOutOfBoundsException();
            }
        }
    }

    private static void slots(int... slots) {
        for (int slot : slots) {
            if (slot < 0 || slot > 3) {
                throw new IndexOutOfBoundsException();
            }
        }
    }

    private static void argument(boolean holds) {
        if (!holds) {
            throw new IllegalArgumentException();
        }
    }

    private static void sign(String told, char sign) {
        argument(told.indexOf(sign) >= 0);
    }

    private static void range(long number, long most) {
        argument(-most <= number && number <= most);
    }

    private static void outcome(boolean holds) {
        if (!holds) {
            throw new UnsupportedOperationException();
        }
    }

    private static boolean isYear(int year) {
        return -9999 <= year && year <= 9999;
    }

    private long keep(int to, LocalDate date) {
        outcome(isYear(date.getYear()));
        dates[to] = date;
        return date.toEpochDay();
    }

    private long keep(int to, long years, long months, long days) {
        for (long each : new long[] {years, months, days}) {
            outcome(Math.abs(each) <= 1000000);
        }
        spans[to] = Period.of((int) years, (int) months, (int) days);
        return spans[to].toTotalMonths();
    }

    private int keep(int to, YearMonth month) {
        outcome(isYear(month.getYear()));
        months[to] = month;
        return month.lengthOfMonth();
    }

    private long keep(int to, LocalTime time) {
        times[to] = time;
        return time.toNanoOfDay();
    }

    private long keep(int to, Duration length) {
        outcome(length.compareTo(MOST) <= 0 && length.compareTo(MOST.negated()) >= 0);
        lengths[to] = length;
        return length.getSeconds();
    }

    private long keep(int to, LocalDateTime moment) {
        outcome(isYear(moment.getYear()));
        moments[to] = moment;
        return moment.toLocalDate().toEpochDay();
    }

    private static int way(int compared) {
        return Integer.signum(compared);
    }

    public long date(int slot, int year, int month, int day) {
        dateSlots(slot);
        argument(isYear(year));
        LocalDate date = null;
        try {
            date = LocalDate.of(year, month, day);
        } catch (DateTimeException none) {
            argument(false);
        }
        return keep(slot, date);
    }

    public int ofDay(int slot, long number) {
        dateSlots(slot);
        outcome(Math.abs(number) < 10000000 && number != Long.MIN_VALUE);
        keep(slot, LocalDate.ofEpochDay(number));
        return dates[slot].getYear();
    }

    public long day(int slot) {
        dateSlots(slot);
        return dates[slot].toEpochDay();
    }

    public int part(int slot, char what) {
        dateSlots(slot);
        LocalDate date = dates[slot];
        switch (what) {
            case 'y': return date.getYear();
            case 'm': return date.getMonthValue();
            case 'd': return date.getDayOfMonth();
            case 'n': return date.getDayOfYear();
            case 'w': return date.getDayOfWeek().getValue();
            case 'l': return date.lengthOfMonth();
            case 'L': return date.lengthOfYear();
            case 'b': return date.isLeapYear() ? 1 : 0;
            default: throw new IllegalArgumentException();
        }
    }

    private static ChronoUnit dateUnit(char unit) {
        switch (unit) {
            case 'd': return ChronoUnit.DAYS;
            case 'w': return ChronoUnit.WEEKS;
            case 'm': return ChronoUnit.MONTHS;
            case 'y': return ChronoUnit.YEARS;
            default: throw new IllegalArgumentException();
        }
    }

    public long move(int slot, char unit, int amount, int to) {
        dateSlots(slot, to);
        range(amount, 1000000);
        return keep(to, dates[slot].plus(amount, dateUnit(unit)));
    }

    public long with(int slot, char what, int value, int to) {
        dateSlots(slot, to);
        sign("dnmy", what);
        LocalDate date = dates[slot];
        try {
            switch (what) {
                case 'd': date = date.withDayOfMonth(value); break;
                case 'n': date = date.withDayOfYear(value); break;
                case 'm': date = date.withMonth(value); break;
                default: date = date.withYear(value); break;
            }
        } catch (DateTimeException none) {
            argument(false);
        }
        argument(isYear(date.getYear()));
        return keep(to, date);
    }

    public long adjust(int slot, char how, int to) {
        dateSlots(slot, to);
        sign("flnFLN", how);
        TemporalAdjuster[] ways = {TemporalAdjusters.firstDayOfMonth(), TemporalAdjusters.lastDayOfMonth(),
                TemporalAdjusters.firstDayOfNextMonth(), TemporalAdjusters.firstDayOfYear(),
                TemporalAdjusters.lastDayOfYear(), TemporalAdjusters.firstDayOfNextYear()};
        return keep(to, dates[slot].with(ways["flnFLN".indexOf(how)]));
    }

    public long weekday(int slot, char how, int weekday, int to) {
        dateSlots(slot, to);
        sign("npNPfl", how);
        argument(weekday >= 1 && weekday <= 7);
        DayOfWeek day = DayOfWeek.of(weekday);
        TemporalAdjuster[] ways = {TemporalAdjusters.next(day), TemporalAdjusters.previous(day),
                TemporalAdjusters.nextOrSame(day), TemporalAdjusters.previousOrSame(day),
                TemporalAdjusters.firstInMonth(day), TemporalAdjusters.lastInMonth(day)};
        return keep(to, dates[slot].with(ways["npNPfl".indexOf(how)]));
    }

    public long inMonth(int slot, int number, int weekday, int to) {
        dateSlots(slot, to);
        range(number, 6);
        argument(weekday >= 1 && weekday <= 7);
        return keep(to, dates[slot].with(TemporalAdjusters.dayOfWeekInMonth(number, DayOfWeek.of(weekday))));
    }

    public long atYear(int month, int day, int year, int to) {
        dateSlots(to);
        MonthDay of = null;
        try {
            of = MonthDay.of(month, day);
        } catch (DateTimeException none) {
            argument(false);
        }
        argument(isYear(year));
        return keep(to, of.atYear(year));
    }

    public int order(int slot, int other) {
        dateSlots(slot, other);
        return way(dates[slot].compareTo(dates[other]));
    }

    public long between(int slot, int other, char unit) {
        dateSlots(slot, other);
        return dateUnit(unit).between(dates[slot], dates[other]);
    }

    public long span(int slot, int years, int months, int days) {
        slots(slot);
        range(years, 1000000);
        range(months, 1000000);
        range(days, 1000000);
        return keep(slot, (long) years, months, days);
    }

    public long until(int slot, int other, int to) {
        dateSlots(slot, other);
        slots(to);
        outcome(!dates[other].isBefore(dates[slot]));
        spans[to] = Period.between(dates[slot], dates[other]);
        return spans[to].toTotalMonths();
    }

    public long go(int slot, int span, boolean isBack, int to) {
        dateSlots(slot, to);
        slots(span);
        return keep(to, isBack ? dates[slot].minus(spans[span]) : dates[slot].plus(spans[span]));
    }

    public int spanPart(int slot, char what) {
        slots(slot);
        switch (what) {
            case 'y': return spans[slot].getYears();
            case 'm': return spans[slot].getMonths();
            case 'd': return spans[slot].getDays();
            default: throw new IllegalArgumentException();
        }
    }

    public long addSpan(int slot, int other, boolean isLess, int to) {
        slots(slot, other, to);
        Period sum = isLess ? spans[slot].minus(spans[other]) : spans[slot].plus(spans[other]);
        return keep(to, (long) sum.getYears(), sum.getMonths(), sum.getDays());
    }

    public long timesSpan(int slot, int n, int to) {
        slots(slot, to);
        range(n, 100);
        Period product = spans[slot].multipliedBy(n);
        return keep(to, (long) product.getYears(), product.getMonths(), product.getDays());
    }

    public long plainSpan(int slot, int to) {
        slots(slot, to);
        Period plain = spans[slot].normalized();
        return keep(to, (long) plain.getYears(), plain.getMonths(), plain.getDays());
    }

    public int month(int slot, int year, int month) {
        slots(slot);
        argument(isYear(year));
        argument(month >= 1 && month <= 12);
        return keep(slot, YearMonth.of(year, month));
    }

    public int moveMonth(int slot, char unit, int amount, int to) {
        slots(slot, to);
        sign("my", unit);
        range(amount, 1000000);
        return keep(to, unit == 'm' ? months[slot].plusMonths(amount) : months[slot].plusYears(amount));
    }

    public int monthPart(int slot, char what) {
        slots(slot);
        switch (what) {
            case 'y': return months[slot].getYear();
            case 'm': return months[slot].getMonthValue();
            case 'l': return months[slot].lengthOfMonth();
            case 'L': return months[slot].lengthOfYear();
            default: throw new IllegalArgumentException();
        }
    }

    public long atDay(int slot, int day, int to) {
        slots(slot);
        dateSlots(to);
        argument(day == 0 || months[slot].isValidDay(day));
        return keep(to, day == 0 ? months[slot].atEndOfMonth() : months[slot].atDay(day));
    }

    public int orderMonths(int slot, int other) {
        slots(slot, other);
        return way(months[slot].compareTo(months[other]));
    }

    public long time(int slot, int hour, int minute, int second, int billionths) {
        slots(slot);
        LocalTime time = null;
        try {
            time = LocalTime.of(hour, minute, second, billionths);
        } catch (DateTimeException none) {
            argument(false);
        }
        return keep(slot, time);
    }

    public int ofBillionths(int slot, long number) {
        slots(slot);
        argument(number >= 0 && number <= 86399999999999L);
        keep(slot, LocalTime.ofNanoOfDay(number));
        return times[slot].getHour();
    }

    public int timePart(int slot, char what) {
        slots(slot);
        switch (what) {
            case 'h': return times[slot].getHour();
            case 'm': return times[slot].getMinute();
            case 's': return times[slot].getSecond();
            case 'n': return times[slot].getNano();
            default: throw new IllegalArgumentException();
        }
    }

    private static final ChronoUnit[] CLOCK_UNITS = {ChronoUnit.HOURS, ChronoUnit.MINUTES, ChronoUnit.SECONDS,
            ChronoUnit.NANOS, ChronoUnit.DAYS};

    public long moveTime(int slot, char unit, long amount, int to) {
        slots(slot, to);
        sign("hmsn", unit);
        range(amount, CLOCK);
        return keep(to, times[slot].plus(amount, CLOCK_UNITS["hmsn".indexOf(unit)]));
    }

    public long cutTime(int slot, char unit, int to) {
        slots(slot, to);
        sign("hmsd", unit);
        return keep(to, times[slot].truncatedTo(CLOCK_UNITS["hms_d".indexOf(unit)]));
    }

    public long goTime(int slot, int length, boolean isBack, int to) {
        slots(slot, length, to);
        Duration by = lengths[length];
        LocalTime gone = isBack ? times[slot].minusSeconds(by.getSeconds()).minusNanos(by.getNano())
                : times[slot].plusSeconds(by.getSeconds()).plusNanos(by.getNano());
        return keep(to, gone);
    }

    public int orderTimes(int slot, int other) {
        slots(slot, other);
        return way(times[slot].compareTo(times[other]));
    }

    public long length(int slot, long seconds, long billionths) {
        slots(slot);
        range(seconds, 1000000000000L);
        range(billionths, CLOCK);
        return keep(slot, Duration.ofSeconds(seconds, billionths));
    }

    public long lengthPart(int slot, char what) {
        slots(slot);
        sign("sn", what);
        return what == 's' ? lengths[slot].getSeconds() : lengths[slot].getNano();
    }

    public long addLength(int slot, int other, boolean isLess, int to) {
        slots(slot, other, to);
        return keep(to, isLess ? lengths[slot].minus(lengths[other]) : lengths[slot].plus(lengths[other]));
    }

    public long timesLength(int slot, int n, int to) {
        slots(slot, to);
        range(n, 1000);
        return keep(to, lengths[slot].multipliedBy(n));
    }

    public long lengthOfTimes(int slot, int other, int to) {
        slots(slot, other, to);
        return keep(to, Duration.between(times[slot], times[other]));
    }

    public int orderLengths(int slot, int other) {
        slots(slot, other);
        return way(lengths[slot].compareTo(lengths[other]));
    }

    public long moment(int slot, int date, int time) {
        slots(slot, time);
        dateSlots(date);
        return keep(slot, LocalDateTime.of(dates[date], times[time]));
    }

    public long dateOf(int slot, int to) {
        slots(slot);
        dateSlots(to);
        return keep(to, moments[slot].toLocalDate());
    }

    public long timeOf(int slot, int to) {
        slots(slot, to);
        return keep(to, moments[slot].toLocalTime());
    }

    public long moveMoment(int slot, char unit, long amount, int to) {
        slots(slot, to);
        sign("ymwdhisn", unit);
        if ("ymwd".indexOf(unit) >= 0) {
            range(amount, 1000000);
            return keep(to, moments[slot].plus(amount, dateUnit(unit)));
        }
        range(amount, CLOCK);
        LocalDateTime moved = null;
        try {
            moved = moments[slot].plus(amount, CLOCK_UNITS["hisn".indexOf(unit)]);
        } catch (DateTimeException tooFar) {
            outcome(false);
        }
        return keep(to, moved);
    }

    public long goMoment(int slot, int length, boolean isBack, int to) {
        slots(slot, length, to);
        return keep(to, isBack ? moments[slot].minus(lengths[length]) : moments[slot].plus(lengths[length]));
    }

    public long lengthOfMoments(int slot, int other, int to) {
        slots(slot, other, to);
        return keep(to, Duration.between(moments[slot], moments[other]));
    }

    public long whole(int slot, int other, char unit) {
        slots(slot, other);
        sign("dhis", unit);
        ChronoUnit[] units = {ChronoUnit.DAYS, ChronoUnit.HOURS, ChronoUnit.MINUTES, ChronoUnit.SECONDS};
        return units["dhis".indexOf(unit)].between(moments[slot], moments[other]);
    }

    public int orderMoments(int slot, int other) {
        slots(slot, other);
        return way(moments[slot].compareTo(moments[other]));
    }

    public float longShare() {
        int count = 0;
        for (LocalDate date : dates) {
            count += Year.isLeap(date.getYear()) ? 1 : 0;
        }
        return (float) count / 6f;
    }

    public double meanDay() {
        long sum = 0;
        for (LocalDate date : dates) {
            sum += date.toEpochDay();
        }
        return (double) sum / 6.0;
    }

    public long checksum() {
        long sum = 7;
        for (LocalDate date : dates) {
            sum = 31 * sum + date.toEpochDay();
        }
        for (Period span : spans) {
            sum = 31 * (31 * (31 * sum + span.getYears()) + span.getMonths()) + span.getDays();
        }
        for (YearMonth month : months) {
            sum = 31 * (31 * sum + month.getYear()) + month.getMonthValue();
        }
        for (LocalTime time : times) {
            sum = 31 * sum + time.toNanoOfDay();
        }
        for (Duration length : lengths) {
            sum = 31 * (31 * sum + length.getSeconds()) + length.getNano();
        }
        for (LocalDateTime moment : moments) {
            sum = 31 * (31 * sum + moment.toLocalDate().toEpochDay()) + moment.toLocalTime().toNanoOfDay();
        }
        return sum;
    }

    public boolean isSound() {
        return true;
    }
}
