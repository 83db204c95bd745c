/**
 * Dates, spans, months, times, lengths and moments in numbered slots, of the calendar that is in use, carried back
 * for ever. The promises are told in ../shared/DOC.md.
 */
public final class Yearwheel {
    private static final int DATE_SLOTS = 6;
    private static final int SLOTS = 4;
    private static final int FIRST_YEAR = -9999;
    private static final int LAST_YEAR = 9999;
    private static final int MOST_MOVED = 1000000;
    private static final long MOST_CLOCK_MOVED = 1000000000000000L;
    private static final int MOST_IN_SPAN = 1000000;
    private static final long MOST_SECONDS = 1000000000000L;
    private static final long MOST_BILLIONTHS_GIVEN = 1000000000000000L;

    /** The numbers of the days. */
    private final long[] dates;
    private final int[] spanYears;
    private final int[] spanMonths;
    private final int[] spanDays;
    /** Counted from the first month of the year 0, so that they can be moved and compared by one number. */
    private final int[] monthIndices;
    /** In billionths. */
    private final long[] times;
    private final long[] lengthSeconds;
    private final long[] lengthBillionths;
    private final long[] momentDays;
    private final long[] momentTimes;

    public Yearwheel() {
        dates = new long[DATE_SLOTS];
        spanYears = new int[SLOTS];
        spanMonths = new int[SLOTS];
        spanDays = new int[SLOTS];
        monthIndices = new int[SLOTS];
        times = new long[SLOTS];
        lengthSeconds = new long[SLOTS];
        lengthBillionths = new long[SLOTS];
        momentDays = new long[SLOTS];
        momentTimes = new long[SLOTS];
        for (int slot = 0; slot < SLOTS; slot++) {
            monthIndices[slot] = 1970 * 12;
        }
    }

    // Dates

    public long date(int slot, int year, int month, int day)
            throws IndexOutOfBoundsException, IllegalArgumentException {
        checkSlot(slot, DATE_SLOTS);
        checkArgument(isYear(year));
        checkArgument(isIn(month, 1, 12));
        long index = Days.monthIndex(year, month);
        checkArgument(isIn(day, 1, Days.lengthOfMonth(index)));
        return keepDate(slot, Days.firstOfMonth(index) + day - 1);
    }

    public int ofDay(int slot, long number) throws IndexOutOfBoundsException, UnsupportedOperationException {
        checkSlot(slot, DATE_SLOTS);
        return (int) Days.yearOfDay(keepDate(slot, number));
    }

    public long day(int slot) throws IndexOutOfBoundsException {
        checkSlot(slot, DATE_SLOTS);
        return dates[slot];
    }

    public int part(int slot, char what) throws IndexOutOfBoundsException, IllegalArgumentException {
        checkSlot(slot, DATE_SLOTS);
        long number = dates[slot];
        long year = Days.yearOfDay(number);
        switch (what) {
            case 'y':
                return (int) year;
            case 'm':
                return Days.monthInYear(Days.monthOfDay(number));
            case 'd':
                return Days.dayInMonth(number);
            case 'n':
                return (int) (number - Days.firstOfYear(year)) + 1;
            case 'w':
                return Days.weekdayOf(number);
            case 'l':
                return Days.lengthOfMonth(Days.monthOfDay(number));
            case 'L':
                return Days.lengthOfYear(year);
            case 'b':
                return Days.isLongYear(year) ? 1 : 0;
            default:
                throw new IllegalArgumentException("there is no such part of a date");
        }
    }

    public long move(int slot, char unit, int amount, int to)
            throws IndexOutOfBoundsException, IllegalArgumentException, UnsupportedOperationException {
        checkSlot(slot, DATE_SLOTS);
        checkSlot(to, DATE_SLOTS);
        checkArgument(Days.isUnit(unit));
        checkArgument(isIn(amount, -MOST_MOVED, MOST_MOVED));
        return keepDate(to, Days.moved(dates[slot], unit, amount));
    }

    public long with(int slot, char what, int value, int to)
            throws IndexOutOfBoundsException, IllegalArgumentException {
        checkSlot(slot, DATE_SLOTS);
        checkSlot(to, DATE_SLOTS);
        long number = dates[slot];
        long month = Days.monthOfDay(number);
        long year = Days.yearOfMonth(month);
        switch (what) {
            case 'd':
                checkArgument(isIn(value, 1, Days.lengthOfMonth(month)));
                return keepDate(to, Days.firstOfMonth(month) + value - 1);
            case 'n':
                checkArgument(isIn(value, 1, Days.lengthOfYear(year)));
                return keepDate(to, Days.firstOfYear(year) + value - 1);
            case 'm':
                checkArgument(isIn(value, 1, 12));
                return keepDate(to, Days.plusMonths(number, value - Days.monthInYear(month)));
            case 'y':
                checkArgument(isYear(value));
                return keepDate(to, Days.plusMonths(number, 12 * (value - year)));
            default:
                throw new IllegalArgumentException("there is no such part to set");
        }
    }

    public long adjust(int slot, char how, int to)
            throws IndexOutOfBoundsException, IllegalArgumentException, UnsupportedOperationException {
        checkSlot(slot, DATE_SLOTS);
        checkSlot(to, DATE_SLOTS);
        long month = Days.monthOfDay(dates[slot]);
        long year = Days.yearOfMonth(month);
        switch (how) {
            case 'f':
                return keepDate(to, Days.firstOfMonth(month));
            case 'l':
                return keepDate(to, Days.firstOfMonth(month + 1) - 1);
            case 'n':
                return keepDate(to, Days.firstOfMonth(month + 1));
            case 'F':
                return keepDate(to, Days.firstOfYear(year));
            case 'L':
                return keepDate(to, Days.firstOfYear(year + 1) - 1);
            case 'N':
                return keepDate(to, Days.firstOfYear(year + 1));
            default:
                throw new IllegalArgumentException("there is no such way to adjust");
        }
    }

    public long weekday(int slot, char how, int weekday, int to)
            throws IndexOutOfBoundsException, IllegalArgumentException, UnsupportedOperationException {
        checkSlot(slot, DATE_SLOTS);
        checkSlot(to, DATE_SLOTS);
        checkArgument(isIn(weekday, 1, 7));
        long number = dates[slot];
        long month = Days.monthOfDay(number);
        switch (how) {
            case 'n':
                return keepDate(to, Days.weekdayFrom(number + 1, weekday));
            case 'p':
                return keepDate(to, Days.weekdayUpTo(number - 1, weekday));
            case 'N':
                return keepDate(to, Days.weekdayFrom(number, weekday));
            case 'P':
                return keepDate(to, Days.weekdayUpTo(number, weekday));
            case 'f':
                return keepDate(to, Days.weekdayFrom(Days.firstOfMonth(month), weekday));
            case 'l':
                return keepDate(to, Days.weekdayUpTo(Days.firstOfMonth(month + 1) - 1, weekday));
            default:
                throw new IllegalArgumentException("there is no such way to a weekday");
        }
    }

    public long inMonth(int slot, int number, int weekday, int to)
            throws IndexOutOfBoundsException, IllegalArgumentException, UnsupportedOperationException {
        checkSlot(slot, DATE_SLOTS);
        checkSlot(to, DATE_SLOTS);
        checkArgument(isIn(number, -6, 6));
        checkArgument(isIn(weekday, 1, 7));
        long month = Days.monthOfDay(dates[slot]);
        if (number < 0) {
            long last = Days.weekdayUpTo(Days.firstOfMonth(month + 1) - 1, weekday);
            return keepDate(to, last + 7 * (number + 1));
        }
        // By the number 0 this is a week ahead of the first one, as it should be.
        return keepDate(to, Days.weekdayFrom(Days.firstOfMonth(month), weekday) + 7 * (number - 1));
    }

    public long atYear(int month, int day, int year, int to)
            throws IndexOutOfBoundsException, IllegalArgumentException {
        checkSlot(to, DATE_SLOTS);
        checkArgument(isIn(month, 1, 12));
        // The year 0 is a long one.
        checkArgument(isIn(day, 1, Days.lengthOfMonth(Days.monthIndex(0, month))));
        checkArgument(isYear(year));
        return keepDate(to, Days.dayOrLast(Days.monthIndex(year, month), day));
    }

    public int order(int slot, int other) throws IndexOutOfBoundsException {
        checkSlot(slot, DATE_SLOTS);
        checkSlot(other, DATE_SLOTS);
        return sign(dates[slot], dates[other]);
    }

    public long between(int slot, int other, char unit) throws IndexOutOfBoundsException, IllegalArgumentException {
        checkSlot(slot, DATE_SLOTS);
        checkSlot(other, DATE_SLOTS);
        long from = dates[slot];
        long upTo = dates[other];
        switch (unit) {
            case 'd':
                return upTo - from;
            case 'w':
                return (upTo - from) / 7;
            case 'm':
                return Days.wholeMonths(from, upTo);
            case 'y':
                return Days.wholeMonths(from, upTo) / 12;
            default:
                throw new IllegalArgumentException("there is no such unit of dates");
        }
    }

    // Spans

    public long span(int slot, int years, int months, int days)
            throws IndexOutOfBoundsException, IllegalArgumentException {
        checkSlot(slot, SLOTS);
        checkArgument(isSpan(years, months, days));
        return keepSpan(slot, years, months, days);
    }

    public long until(int slot, int other, int to) throws IndexOutOfBoundsException, UnsupportedOperationException {
        checkSlot(slot, DATE_SLOTS);
        checkSlot(other, DATE_SLOTS);
        checkSlot(to, SLOTS);
        long from = dates[slot];
        long upTo = dates[other];
        checkOutcome(from <= upTo);
        long whole = Days.wholeMonths(from, upTo);
        return keepSpan(to, whole / 12, whole % 12, upTo - Days.plusMonths(from, whole));
    }

    public long go(int slot, int span, boolean isBack, int to)
            throws IndexOutOfBoundsException, UnsupportedOperationException {
        checkSlot(slot, DATE_SLOTS);
        checkSlot(span, SLOTS);
        checkSlot(to, DATE_SLOTS);
        int way = isBack ? -1 : 1;
        long byMonths = Days.plusMonths(dates[slot], way * allMonths(span));
        return keepDate(to, byMonths + way * spanDays[span]);
    }

    public int spanPart(int slot, char what) throws IndexOutOfBoundsException, IllegalArgumentException {
        checkSlot(slot, SLOTS);
        switch (what) {
            case 'y':
                return spanYears[slot];
            case 'm':
                return spanMonths[slot];
            case 'd':
                return spanDays[slot];
            default:
                throw new IllegalArgumentException("there is no such part of a span");
        }
    }

    public long addSpan(int slot, int other, boolean isLess, int to)
            throws IndexOutOfBoundsException, UnsupportedOperationException {
        checkSlot(slot, SLOTS);
        checkSlot(other, SLOTS);
        checkSlot(to, SLOTS);
        long way = isLess ? -1 : 1;
        long years = spanYears[slot] + way * spanYears[other];
        long months = spanMonths[slot] + way * spanMonths[other];
        long days = spanDays[slot] + way * spanDays[other];
        return keepSpan(to, years, months, days);
    }

    public long timesSpan(int slot, int n, int to)
            throws IndexOutOfBoundsException, IllegalArgumentException, UnsupportedOperationException {
        checkSlot(slot, SLOTS);
        checkSlot(to, SLOTS);
        checkArgument(isIn(n, -100, 100));
        return keepSpan(to, n * spanYears[slot], n * spanMonths[slot], n * spanDays[slot]);
    }

    public long plainSpan(int slot, int to) throws IndexOutOfBoundsException, UnsupportedOperationException {
        checkSlot(slot, SLOTS);
        checkSlot(to, SLOTS);
        long all = allMonths(slot);
        return keepSpan(to, all / 12, all % 12, spanDays[slot]);
    }

    // Months

    public int month(int slot, int year, int month) throws IndexOutOfBoundsException, IllegalArgumentException {
        checkSlot(slot, SLOTS);
        checkArgument(isIn(month, 1, 12));
        checkArgument(isYear(year));
        return keepMonth(slot, Days.monthIndex(year, month));
    }

    public int moveMonth(int slot, char unit, int amount, int to)
            throws IndexOutOfBoundsException, IllegalArgumentException, UnsupportedOperationException {
        checkSlot(slot, SLOTS);
        checkSlot(to, SLOTS);
        checkArgument(unit == 'm' || unit == 'y');
        checkArgument(isIn(amount, -MOST_MOVED, MOST_MOVED));
        return keepMonth(to, monthIndices[slot] + (unit == 'y' ? 12L * amount : amount));
    }

    public int monthPart(int slot, char what) throws IndexOutOfBoundsException, IllegalArgumentException {
        checkSlot(slot, SLOTS);
        long month = monthIndices[slot];
        switch (what) {
            case 'y':
                return (int) Days.yearOfMonth(month);
            case 'm':
                return Days.monthInYear(month);
            case 'l':
                return Days.lengthOfMonth(month);
            case 'L':
                return Days.lengthOfYear(Days.yearOfMonth(month));
            default:
                throw new IllegalArgumentException("there is no such part of a month");
        }
    }

    public long atDay(int slot, int day, int to) throws IndexOutOfBoundsException, IllegalArgumentException {
        checkSlot(slot, SLOTS);
        checkSlot(to, DATE_SLOTS);
        int last = Days.lengthOfMonth(monthIndices[slot]);
        checkArgument(isIn(day, 0, last));
        return keepDate(to, Days.firstOfMonth(monthIndices[slot]) + (day == 0 ? last : day) - 1);
    }

    public int orderMonths(int slot, int other) throws IndexOutOfBoundsException {
        checkSlot(slot, SLOTS);
        checkSlot(other, SLOTS);
        return sign(monthIndices[slot], monthIndices[other]);
    }

    // Times

    public long time(int slot, int hour, int minute, int second, int billionths)
            throws IndexOutOfBoundsException, IllegalArgumentException {
        checkSlot(slot, SLOTS);
        checkArgument(isIn(hour, 0, 23));
        checkArgument(isIn(minute, 0, 59));
        checkArgument(isIn(second, 0, 59));
        checkArgument(isIn(billionths, 0, Clock.SECOND - 1));
        times[slot] = hour * Clock.HOUR + minute * Clock.MINUTE + second * Clock.SECOND + billionths;
        return times[slot];
    }

    public int ofBillionths(int slot, long number) throws IndexOutOfBoundsException, IllegalArgumentException {
        checkSlot(slot, SLOTS);
        checkArgument(isIn(number, 0, Clock.DAY - 1));
        times[slot] = number;
        return (int) (number / Clock.HOUR);
    }

    public int timePart(int slot, char what) throws IndexOutOfBoundsException, IllegalArgumentException {
        checkSlot(slot, SLOTS);
        long time = times[slot];
        switch (what) {
            case 'h':
                return (int) (time / Clock.HOUR);
            case 'm':
                return (int) (time / Clock.MINUTE % 60);
            case 's':
                return (int) (time / Clock.SECOND % 60);
            case 'n':
                return (int) (time % Clock.SECOND);
            default:
                throw new IllegalArgumentException("there is no such part of a time");
        }
    }

    public long moveTime(int slot, char unit, long amount, int to)
            throws IndexOutOfBoundsException, IllegalArgumentException {
        checkSlot(slot, SLOTS);
        checkSlot(to, SLOTS);
        // Only moments call the minutes 'i'.
        checkArgument(unit != 'i');
        long inDay = Clock.countInDay(unit == 'm' ? 'i' : unit);
        checkArgument(inDay > 0);
        checkArgument(isIn(amount, -MOST_CLOCK_MOVED, MOST_CLOCK_MOVED));
        times[to] = Clock.roundDay(times[slot] + Clock.restOfDay(amount, inDay));
        return times[to];
    }

    public long cutTime(int slot, char unit, int to) throws IndexOutOfBoundsException, IllegalArgumentException {
        checkSlot(slot, SLOTS);
        checkSlot(to, SLOTS);
        long time = times[slot];
        switch (unit) {
            case 'h':
                times[to] = time - time % Clock.HOUR;
                break;
            case 'm':
                times[to] = time - time % Clock.MINUTE;
                break;
            case 's':
                times[to] = time - time % Clock.SECOND;
                break;
            case 'd':
                times[to] = 0;
                break;
            default:
                throw new IllegalArgumentException("there is no such unit to cut to");
        }
        return times[to];
    }

    public long goTime(int slot, int length, boolean isBack, int to) throws IndexOutOfBoundsException {
        checkSlot(slot, SLOTS);
        checkSlot(length, SLOTS);
        checkSlot(to, SLOTS);
        long rest = Clock.restOfDay(lengthSeconds[length], Clock.SECONDS_IN_DAY) + lengthBillionths[length];
        times[to] = Clock.roundDay(times[slot] + (isBack ? -rest : rest));
        return times[to];
    }

    public int orderTimes(int slot, int other) throws IndexOutOfBoundsException {
        checkSlot(slot, SLOTS);
        checkSlot(other, SLOTS);
        return sign(times[slot], times[other]);
    }

    // Lengths

    public long length(int slot, long seconds, long billionths)
            throws IndexOutOfBoundsException, IllegalArgumentException, UnsupportedOperationException {
        checkSlot(slot, SLOTS);
        checkArgument(isIn(seconds, -MOST_SECONDS, MOST_SECONDS));
        checkArgument(isIn(billionths, -MOST_BILLIONTHS_GIVEN, MOST_BILLIONTHS_GIVEN));
        return keepLength(slot, seconds, billionths);
    }

    public long lengthPart(int slot, char what) throws IndexOutOfBoundsException, IllegalArgumentException {
        checkSlot(slot, SLOTS);
        switch (what) {
            case 's':
                return lengthSeconds[slot];
            case 'n':
                return lengthBillionths[slot];
            default:
                throw new IllegalArgumentException("there is no such part of a length");
        }
    }

    public long addLength(int slot, int other, boolean isLess, int to)
            throws IndexOutOfBoundsException, UnsupportedOperationException {
        checkSlot(slot, SLOTS);
        checkSlot(other, SLOTS);
        checkSlot(to, SLOTS);
        int way = isLess ? -1 : 1;
        long seconds = lengthSeconds[slot] + way * lengthSeconds[other];
        return keepLength(to, seconds, lengthBillionths[slot] + way * lengthBillionths[other]);
    }

    public long timesLength(int slot, int n, int to)
            throws IndexOutOfBoundsException, IllegalArgumentException, UnsupportedOperationException {
        checkSlot(slot, SLOTS);
        checkSlot(to, SLOTS);
        checkArgument(isIn(n, -1000, 1000));
        return keepLength(to, n * lengthSeconds[slot], n * lengthBillionths[slot]);
    }

    public long lengthOfTimes(int slot, int other, int to) throws IndexOutOfBoundsException {
        checkSlot(slot, SLOTS);
        checkSlot(other, SLOTS);
        checkSlot(to, SLOTS);
        return keepLength(to, 0, times[other] - times[slot]);
    }

    public int orderLengths(int slot, int other) throws IndexOutOfBoundsException {
        checkSlot(slot, SLOTS);
        checkSlot(other, SLOTS);
        int bySeconds = sign(lengthSeconds[slot], lengthSeconds[other]);
        return bySeconds != 0 ? bySeconds : sign(lengthBillionths[slot], lengthBillionths[other]);
    }

    // Moments

    public long moment(int slot, int date, int time) throws IndexOutOfBoundsException {
        checkSlot(slot, SLOTS);
        checkSlot(date, DATE_SLOTS);
        checkSlot(time, SLOTS);
        return keepMoment(slot, dates[date], times[time]);
    }

    public long dateOf(int slot, int to) throws IndexOutOfBoundsException {
        checkSlot(slot, SLOTS);
        checkSlot(to, DATE_SLOTS);
        return keepDate(to, momentDays[slot]);
    }

    public long timeOf(int slot, int to) throws IndexOutOfBoundsException {
        checkSlot(slot, SLOTS);
        checkSlot(to, SLOTS);
        times[to] = momentTimes[slot];
        return times[to];
    }

    public long moveMoment(int slot, char unit, long amount, int to)
            throws IndexOutOfBoundsException, IllegalArgumentException, UnsupportedOperationException {
        checkSlot(slot, SLOTS);
        checkSlot(to, SLOTS);
        if (Days.isUnit(unit)) {
            checkArgument(isIn(amount, -MOST_MOVED, MOST_MOVED));
            return keepMoment(to, Days.moved(momentDays[slot], unit, amount), momentTimes[slot]);
        }
        long inDay = Clock.countInDay(unit);
        checkArgument(inDay > 0);
        checkArgument(isIn(amount, -MOST_CLOCK_MOVED, MOST_CLOCK_MOVED));
        // Days and the rest apart: so many hours are more billionths than a long holds.
        long day = momentDays[slot] + Clock.daysOf(amount, inDay);
        return keepMoment(to, day, momentTimes[slot] + Clock.restOfDay(amount, inDay));
    }

    public long goMoment(int slot, int length, boolean isBack, int to)
            throws IndexOutOfBoundsException, UnsupportedOperationException {
        checkSlot(slot, SLOTS);
        checkSlot(length, SLOTS);
        checkSlot(to, SLOTS);
        int way = isBack ? -1 : 1;
        long day = momentDays[slot] + way * Clock.daysOf(lengthSeconds[length], Clock.SECONDS_IN_DAY);
        long rest = Clock.restOfDay(lengthSeconds[length], Clock.SECONDS_IN_DAY) + lengthBillionths[length];
        return keepMoment(to, day, momentTimes[slot] + way * rest);
    }

    public long lengthOfMoments(int slot, int other, int to) throws IndexOutOfBoundsException {
        checkSlot(slot, SLOTS);
        checkSlot(other, SLOTS);
        checkSlot(to, SLOTS);
        long days = momentDays[other] - momentDays[slot];
        return keepLength(to, days * Clock.SECONDS_IN_DAY, momentTimes[other] - momentTimes[slot]);
    }

    public long whole(int slot, int other, char unit) throws IndexOutOfBoundsException, IllegalArgumentException {
        checkSlot(slot, SLOTS);
        checkSlot(other, SLOTS);
        long days = momentDays[other] - momentDays[slot];
        long billionths = momentTimes[other] - momentTimes[slot];
        switch (unit) {
            case 'd':
                return Clock.cut(days, billionths);
            case 'h':
                return Clock.wholeSeconds(days, billionths) / 3600;
            case 'i':
                return Clock.wholeSeconds(days, billionths) / 60;
            case 's':
                return Clock.wholeSeconds(days, billionths);
            default:
                throw new IllegalArgumentException("there is no such unit of moments");
        }
    }

    public int orderMoments(int slot, int other) throws IndexOutOfBoundsException {
        checkSlot(slot, SLOTS);
        checkSlot(other, SLOTS);
        int byDay = sign(momentDays[slot], momentDays[other]);
        return byDay != 0 ? byDay : sign(momentTimes[slot], momentTimes[other]);
    }

    // All

    public float longShare() {
        int longOnes = 0;
        for (int slot = 0; slot < DATE_SLOTS; slot++) {
            if (Days.isLongYear(Days.yearOfDay(dates[slot]))) {
                longOnes++;
            }
        }
        return (float) longOnes / (float) DATE_SLOTS;
    }

    public double meanDay() {
        long sum = 0;
        for (int slot = 0; slot < DATE_SLOTS; slot++) {
            sum += dates[slot];
        }
        return (double) sum / (double) DATE_SLOTS;
    }

    public long checksum() {
        long sum = 7;
        for (int slot = 0; slot < DATE_SLOTS; slot++) {
            sum = 31 * sum + dates[slot];
        }
        for (int slot = 0; slot < SLOTS; slot++) {
            sum = 31 * sum + spanYears[slot];
            sum = 31 * sum + spanMonths[slot];
            sum = 31 * sum + spanDays[slot];
        }
        for (int slot = 0; slot < SLOTS; slot++) {
            sum = 31 * sum + Days.yearOfMonth(monthIndices[slot]);
            sum = 31 * sum + Days.monthInYear(monthIndices[slot]);
        }
        for (int slot = 0; slot < SLOTS; slot++) {
            sum = 31 * sum + times[slot];
        }
        for (int slot = 0; slot < SLOTS; slot++) {
            sum = 31 * sum + lengthSeconds[slot];
            sum = 31 * sum + lengthBillionths[slot];
        }
        for (int slot = 0; slot < SLOTS; slot++) {
            sum = 31 * sum + momentDays[slot];
            sum = 31 * sum + momentTimes[slot];
        }
        return sum;
    }

    public boolean isSound() {
        boolean sound = true;
        for (int slot = 0; slot < DATE_SLOTS; slot++) {
            sound = sound && isSoundDay(dates[slot]);
            for (int other = 0; other < DATE_SLOTS; other++) {
                sound = sound && isSoundWay(dates[slot], dates[other]);
            }
        }
        for (int slot = 0; slot < SLOTS; slot++) {
            sound = sound && isSoundDay(momentDays[slot]);
            for (int other = 0; other < SLOTS; other++) {
                sound = sound && isSoundTimeWay(times[slot], times[other]) && isSoundMomentWay(slot, other);
            }
        }
        return sound;
    }

    private static boolean isSoundDay(long number) {
        long month = Days.monthOfDay(number);
        int day = Days.dayInMonth(number);
        boolean isLast = day == Days.lengthOfMonth(month);
        boolean isDate = Days.isDay(number) && isIn(day, 1, Days.lengthOfMonth(month))
                && Days.firstOfMonth(month) + day - 1 == number;
        boolean isFollowed = Days.monthOfDay(number + 1) == (isLast ? month + 1 : month)
                && Days.dayInMonth(number + 1) == (isLast ? 1 : day + 1)
                && Days.weekdayOf(number + 1) == Days.weekdayOf(number) % 7 + 1;
        // There and back the day is less where a month on the way is too short for it.
        long there = Days.plusMonths(number, 1);
        long due = Days.dayOrLast(month, Math.min(day, Days.lengthOfMonth(month + 1)));
        return isDate && isFollowed && Days.plusMonths(there, -1) == due;
    }

    private static boolean isSoundWay(long from, long upTo) {
        long whole = Days.wholeMonths(from, upTo);
        if (upTo < from) {
            return whole <= 0 && whole == -Days.wholeMonths(upTo, from);
        }
        long reached = Days.plusMonths(from, whole);
        return whole >= 0 && reached <= upTo && upTo - reached < 31;
    }

    private static boolean isSoundTimeWay(long from, long upTo) {
        long seconds = Math.floorDiv(upTo - from, Clock.SECOND);
        long billionths = Math.floorMod(upTo - from, Clock.SECOND);
        return Clock.roundDay(from + Clock.restOfDay(seconds, Clock.SECONDS_IN_DAY) + billionths) == upTo;
    }

    private boolean isSoundMomentWay(int slot, int other) {
        long days = momentDays[other] - momentDays[slot];
        long billionths = momentTimes[other] - momentTimes[slot];
        long seconds = days * Clock.SECONDS_IN_DAY + Math.floorDiv(billionths, Clock.SECOND);
        long day = momentDays[slot] + Clock.daysOf(seconds, Clock.SECONDS_IN_DAY);
        long time = momentTimes[slot] + Clock.restOfDay(seconds, Clock.SECONDS_IN_DAY)
                + Math.floorMod(billionths, Clock.SECOND);
        return day + Math.floorDiv(time, Clock.DAY) == momentDays[other]
                && Clock.roundDay(time) == momentTimes[other];
    }

    // What is looked at ahead of every change, and the changes

    private static void checkSlot(int slot, int count) {
        if (slot < 0 || slot >= count) {
            throw new IndexOutOfBoundsException("there is no such slot");
        }
    }

    private static void checkArgument(boolean holds) {
        if (!holds) {
            throw new IllegalArgumentException("there is no such thing, or a number is out of range");
        }
    }

    private static void checkOutcome(boolean holds) {
        if (!holds) {
            throw new UnsupportedOperationException("what would come of it is out of range");
        }
    }

    private static boolean isIn(long number, long least, long most) {
        return least <= number && number <= most;
    }

    private static boolean isYear(long year) {
        return isIn(year, FIRST_YEAR, LAST_YEAR);
    }

    private static boolean isSpan(long years, long months, long days) {
        return isIn(years, -MOST_IN_SPAN, MOST_IN_SPAN)
                && isIn(months, -MOST_IN_SPAN, MOST_IN_SPAN)
                && isIn(days, -MOST_IN_SPAN, MOST_IN_SPAN);
    }

    private static int sign(long one, long other) {
        return one < other ? -1 : one == other ? 0 : 1;
    }

    private long allMonths(int span) {
        return 12L * spanYears[span] + spanMonths[span];
    }

    private long keepDate(int to, long number) {
        checkOutcome(Days.isDay(number));
        dates[to] = number;
        return number;
    }

    private long keepSpan(int to, long years, long months, long days) {
        checkOutcome(isSpan(years, months, days));
        spanYears[to] = (int) years;
        spanMonths[to] = (int) months;
        spanDays[to] = (int) days;
        return allMonths(to);
    }

    private int keepMonth(int to, long month) {
        checkOutcome(isYear(Days.yearOfMonth(month)));
        monthIndices[to] = (int) month;
        return Days.lengthOfMonth(month);
    }

    /** The billionths may be below 0, or a second and more. */
    private long keepLength(int to, long seconds, long billionths) {
        long floor = seconds + Math.floorDiv(billionths, Clock.SECOND);
        long rest = Math.floorMod(billionths, Clock.SECOND);
        // Billionths lead away from the lower bound, but across the upper one.
        checkOutcome(isIn(floor, -MOST_SECONDS, MOST_SECONDS) && (floor < MOST_SECONDS || rest == 0));
        lengthSeconds[to] = floor;
        lengthBillionths[to] = rest;
        return floor;
    }

    /** The time may lead to another day. */
    private long keepMoment(int to, long day, long time) {
        long reached = day + Math.floorDiv(time, Clock.DAY);
        checkOutcome(Days.isDay(reached));
        momentDays[to] = reached;
        momentTimes[to] = Clock.roundDay(time);
        return reached;
    }

    /**
     * The calendar, of any years: a way to a date may lead through years that dates do not have. Days are numbered
     * from 1970-01-01, months from the first one of the year 0.
     */
    private static final class Days {
        static final long FIRST = -4371587L;
        static final long LAST = 2932896L;
        /** From the first day of the year 0 to that of 1970. */
        static final long BEFORE_1970 = 719528L;

        static boolean isDay(long number) {
            return FIRST <= number && number <= LAST;
        }

        static boolean isUnit(char unit) {
            return unit == 'd' || unit == 'w' || unit == 'm' || unit == 'y';
        }

        static boolean isLongYear(long year) {
            return year % 4 == 0 && (year % 100 != 0 || year % 400 == 0);
        }

        static int lengthOfYear(long year) {
            return isLongYear(year) ? 366 : 365;
        }

        static long monthIndex(long year, long month) {
            return 12 * year + month - 1;
        }

        static long yearOfMonth(long month) {
            return Math.floorDiv(month, 12L);
        }

        static int monthInYear(long month) {
            return (int) Math.floorMod(month, 12L) + 1;
        }

        static int lengthOfMonth(long month) {
            switch (monthInYear(month)) {
                case 2:
                    return isLongYear(yearOfMonth(month)) ? 29 : 28;
                case 4:
                case 6:
                case 9:
                case 11:
                    return 30;
                default:
                    return 31;
            }
        }

        static long firstOfYear(long year) {
            long longYears = Math.floorDiv(year + 3, 4L) - Math.floorDiv(year + 99, 100L)
                    + Math.floorDiv(year + 399, 400L);
            return 365 * year + longYears - BEFORE_1970;
        }

        static long firstOfMonth(long month) {
            long year = yearOfMonth(month);
            int inYear = monthInYear(month);
            // This counts the days ahead of a month as if the second one had 30; what it lacks is taken away.
            long before = (367 * inYear - 362) / 12;
            if (inYear > 2) {
                before -= isLongYear(year) ? 1 : 2;
            }
            return firstOfYear(year) + before;
        }

        static long yearOfDay(long number) {
            // By the mean year, of which 400 have 146097 days: this is wrong by one year at most.
            long year = Math.floorDiv(400 * (number + BEFORE_1970), 146097L);
            if (firstOfYear(year) > number) {
                return year - 1;
            }
            return firstOfYear(year + 1) <= number ? year + 1 : year;
        }

        static long monthOfDay(long number) {
            long year = yearOfDay(number);
            long past = number - firstOfYear(year);
            int lacking = isLongYear(year) ? 1 : 2;
            // As in firstOfMonth, the other way round.
            if (past >= 61 - lacking) {
                past += lacking;
            }
            return monthIndex(year, (12 * past + 373) / 367);
        }

        static int dayInMonth(long number) {
            return (int) (number - firstOfMonth(monthOfDay(number))) + 1;
        }

        static int weekdayOf(long number) {
            return (int) Math.floorMod(number + 3, 7L) + 1;
        }

        static long weekdayFrom(long number, int weekday) {
            return number + Math.floorMod(weekday - weekdayOf(number), 7);
        }

        static long weekdayUpTo(long number, int weekday) {
            return number - Math.floorMod(weekdayOf(number) - weekday, 7);
        }

        static long dayOrLast(long month, long day) {
            return firstOfMonth(month) + Math.min(day, (long) lengthOfMonth(month)) - 1;
        }

        static long plusMonths(long number, long amount) {
            long month = monthOfDay(number);
            return dayOrLast(month + amount, number - firstOfMonth(month) + 1);
        }

        static long moved(long number, char unit, long amount) {
            switch (unit) {
                case 'd':
                    return number + amount;
                case 'w':
                    return number + 7 * amount;
                case 'm':
                    return plusMonths(number, amount);
                default:
                    return plusMonths(number, 12 * amount);
            }
        }

        static long wholeMonths(long from, long upTo) {
            long earlier = Math.min(from, upTo);
            long later = Math.max(from, upTo);
            long earlierMonth = monthOfDay(earlier);
            long laterMonth = monthOfDay(later);
            long whole = laterMonth - earlierMonth;
            if (later - firstOfMonth(laterMonth) < earlier - firstOfMonth(earlierMonth)) {
                whole--;
            }
            return upTo < from ? -whole : whole;
        }
    }

    /** Times of the day and what is shorter than days, in billionths of a second. */
    private static final class Clock {
        static final long SECOND = 1000000000L;
        static final long MINUTE = 60000000000L;
        static final long HOUR = 3600000000000L;
        static final long DAY = 86400000000000L;
        static final long SECONDS_IN_DAY = 86400L;

        /** Of a unit of moments; 0 if there is no such unit. */
        static long countInDay(char unit) {
            switch (unit) {
                case 'h':
                    return 24L;
                case 'i':
                    return 1440L;
                case 's':
                    return SECONDS_IN_DAY;
                case 'n':
                    return DAY;
                default:
                    return 0L;
            }
        }

        static long roundDay(long billionths) {
            return Math.floorMod(billionths, DAY);
        }

        static long daysOf(long amount, long inDay) {
            return inDay > 0 ? Math.floorDiv(amount, inDay) : 0L;
        }

        /** In billionths. */
        static long restOfDay(long amount, long inDay) {
            return inDay > 0 ? Math.floorMod(amount, inDay) * (DAY / inDay) : 0L;
        }

        /** Whole ones of a number and a rest that may have the other sign. */
        static long cut(long whole, long rest) {
            if (whole > 0 && rest < 0) {
                return whole - 1;
            }
            return whole < 0 && rest > 0 ? whole + 1 : whole;
        }

        static long wholeSeconds(long days, long billionths) {
            return cut(days * SECONDS_IN_DAY + billionths / SECOND, billionths % SECOND);
        }
    }
}
