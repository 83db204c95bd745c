import java.lang.reflect.Field;
import java.time.LocalDate;
import java.util.Arrays;

/** Promise 1 and promises 47 to 50. */
public final class WholeTest {
    public static void main(String[] args) throws ReflectiveOperationException {
        newObject();
        longShare();
        meanDay();
        checksum();
        checksumOfEach();
        isSound();
        isSoundSees();
        everyDay();
        Check.end("WholeTest");
    }

    private static void newObject() {
        Yearwheel wheel = new Yearwheel();
        for (int slot = 0; slot < 6; slot++) {
            Check.same("1 a date", 0, wheel.day(slot));
            Check.same("1 a year", 1970, wheel.part(slot, 'y'));
            Check.same("1 a month", 1, wheel.part(slot, 'm'));
            Check.same("1 a day", 1, wheel.part(slot, 'd'));
            Check.same("1 a Thursday", 4, wheel.part(slot, 'w'));
        }
        for (int slot = 0; slot < 4; slot++) {
            for (char part : "ymd".toCharArray()) {
                Check.same("1 a span", 0, wheel.spanPart(slot, part));
            }
            Check.same("1 a month's year", 1970, wheel.monthPart(slot, 'y'));
            Check.same("1 a month's number", 1, wheel.monthPart(slot, 'm'));
            for (char part : "hmsn".toCharArray()) {
                Check.same("1 a time", 0, wheel.timePart(slot, part));
            }
            Check.same("1 a length", 0, wheel.lengthPart(slot, 's'));
            Check.same("1 a length", 0, wheel.lengthPart(slot, 'n'));
            Check.same("1 moments are the same", 0, wheel.orderMoments(slot, 3));
        }
        for (int slot = 0; slot < 4; slot++) {
            Check.same("1 a moment's date", 0, wheel.dateOf(slot, 0));
            Check.same("1 a moment's time", 0, wheel.timeOf(slot, 0));
        }
        Yearwheel other = new Yearwheel();
        Check.stirred();
        Check.holds("1 one object changes no other", Arrays.equals(Check.picture(wheel), Check.picture(other)));
    }

    private static void longShare() {
        float[] due = {0f, 0.16666667f, 0.33333334f, 0.5f, 0.6666667f, 0.8333333f, 1f};
        Yearwheel wheel = new Yearwheel();
        int[] years = {0, 2000, -4, 9996, -9996, 2024};
        Check.sameReal("47 none is long", due[0], wheel.longShare());
        for (int slot = 0; slot < 6; slot++) {
            wheel.date(slot, years[slot], 1, 1);
            Check.sameReal("47 longShare", due[slot + 1], wheel.longShare());
            wheel.date(slot, years[slot], 12, 31);
            Check.sameReal("47 longShare at the end", (float) (slot + 1) / 6f, wheel.longShare());
        }
        wheel.date(0, 1900, 5, 5);
        Check.sameReal("47 not a long one", due[5], wheel.longShare());
        wheel.month(0, 2000, 1);
        Check.sameReal("47 months do not count", due[5], wheel.longShare());
    }

    private static void meanDay() {
        Yearwheel wheel = new Yearwheel();
        Check.sameReal("48 at first", 0, wheel.meanDay());
        long sum = 0;
        long[] days = {1, -8, 2932896, -4371587, 18321, -719469};
        for (int slot = 0; slot < 6; slot++) {
            wheel.ofDay(slot, days[slot]);
            sum += days[slot];
            Check.sameReal("48 meanDay", (double) sum / 6.0, wheel.meanDay());
        }
        wheel.ofDay(0, 0);
        for (int slot = 0; slot < 6; slot++) {
            wheel.ofDay(slot, slot == 3 ? -1 : 0);
        }
        Check.sameReal("48 below 0", -1.0 / 6.0, wheel.meanDay());
        for (int slot = 0; slot < 6; slot++) {
            wheel.ofDay(slot, 2932896);
        }
        Check.sameReal("48 all at the last", 2932896.0, wheel.meanDay());
    }

    /** As the document tells it, from what the wheel was given. */
    private static long sum(long[]... rows) {
        long sum = 7;
        for (long[] row : rows) {
            for (long each : row) {
                sum = 31 * sum + each;
            }
        }
        return sum;
    }

    private static void checksum() {
        long[] none = new long[12];
        long[] months = {1970, 1, 1970, 1, 1970, 1, 1970, 1};
        Check.same("49 at first", sum(new long[6], none, months, new long[4], new long[8], new long[8]),
                new Yearwheel().checksum());
        long[] dates = {LocalDate.of(2020, 2, 29).toEpochDay(), -4371587, 2932896,
                LocalDate.of(2023, 1, 31).toEpochDay(), LocalDate.of(1900, 2, 28).toEpochDay(),
                LocalDate.of(0, 12, 30).toEpochDay()};
        long[] times = {86399000000005L, 0, 86399999999999L, 45015500000000L};
        Check.same("49 stirred", sum(dates, new long[] {1, 15, 40, 1000000, 999999, 1000000, -1000000, 7, -1000000, 0,
                -1, -5}, new long[] {2000, 2, -9999, 1, 9999, 12, 2023, 2}, times,
                new long[] {1000000000000L, 0, -1000000000000L, 0, -1, 1, 93784, 500000001},
                new long[] {dates[0], times[0], dates[1], times[1], dates[2], times[2], dates[3], times[3]}),
                Check.stirred().checksum());
    }

    /** Each of all that counts has a factor of its own. */
    private static void checksumOfEach() {
        int place = 46;
        for (int slot = 0; slot < 6; slot++) {
            int each = slot;
            counts("a date", --place, 5, w -> w.ofDay(each, 5));
        }
        for (int slot = 0; slot < 4; slot++) {
            int each = slot;
            counts("years", --place, -3, w -> w.span(each, -3, 0, 0));
            counts("months", --place, 4, w -> w.span(each, 0, 4, 0));
            counts("days", --place, 9, w -> w.span(each, 0, 0, 9));
        }
        for (int slot = 0; slot < 4; slot++) {
            int each = slot;
            counts("a year", --place, 30, w -> w.month(each, 2000, 1));
            counts("a month", --place, 11, w -> w.month(each, 1970, 12));
        }
        for (int slot = 0; slot < 4; slot++) {
            int each = slot;
            counts("a time", --place, 77, w -> w.ofBillionths(each, 77));
        }
        for (int slot = 0; slot < 4; slot++) {
            int each = slot;
            counts("seconds", --place, -8, w -> w.length(each, -8, 0));
            counts("billionths", --place, 8, w -> w.length(each, 0, 8));
        }
        for (int slot = 0; slot < 4; slot++) {
            int each = slot;
            counts("a moment's day", --place, 2, w -> w.moveMoment(each, 'd', 2, each));
            counts("a moment's time", --place, 3, w -> w.moveMoment(each, 'n', 3, each));
        }
        Check.same("49 all are counted", 0, place);
    }

    private static void counts(String what, int place, long more, Check.Call call) {
        long due = more;
        for (int i = 0; i < place; i++) {
            due *= 31;
        }
        Yearwheel wheel = new Yearwheel();
        long before = wheel.checksum();
        call.on(wheel);
        Check.same("49 " + what, before + due, wheel.checksum());
    }

    private static void isSound() {
        Check.holds("50 at first", new Yearwheel().isSound());
        Yearwheel wheel = Check.stirred();
        long[] before = Check.picture(wheel);
        Check.holds("50 stirred", wheel.isSound());
        Check.holds("50 nothing is changed", Arrays.equals(before, Check.picture(wheel)));
        Yearwheel refused = Check.stirred();
        Check.thrown(() -> refused.date(0, 2023, 2, 29));
        Check.thrown(() -> refused.go(0, 1, false, 0));
        Check.holds("50 behind refused calls", refused.isSound());
    }

    /** No call brings this about, but a check that could not fail would check nothing. */
    private static void isSoundSees() throws ReflectiveOperationException {
        for (int slot = 0; slot < 6; slot++) {
            forged("dates", slot, -4371588);
            forged("dates", slot, 2932897);
        }
        for (int slot = 0; slot < 4; slot++) {
            forged("times", slot, -1);
            forged("times", slot, 86400000000000L);
            forged("momentDays", slot, -4371588);
            forged("momentDays", slot, 2932897);
            forged("momentTimes", slot, -1);
            forged("momentTimes", slot, 86400000000000L);
        }
    }

    private static void forged(String slots, int slot, long number) throws ReflectiveOperationException {
        Yearwheel wheel = new Yearwheel();
        Field field = Yearwheel.class.getDeclaredField(slots);
        field.setAccessible(true);
        ((long[]) field.get(wheel))[slot] = number;
        Check.holds("50 " + number + " in a slot of " + slots + " is not seen", !wheel.isSound());
    }

    /** Every date that there is, by its number, its parts and the theorem. */
    private static void everyDay() {
        LocalDate date = LocalDate.of(-9999, 1, 1);
        Yearwheel wheel = new Yearwheel();
        for (long number = -4371587; number <= 2932896; number++) {
            if (number % 100 == 0) {
                wheel = new Yearwheel();
            }
            int year = wheel.ofDay(1, number);
            if (year != date.getYear() || wheel.part(1, 'm') != date.getMonthValue()
                    || wheel.part(1, 'd') != date.getDayOfMonth()
                    || wheel.date(2, year, date.getMonthValue(), date.getDayOfMonth()) != number) {
                Check.fail("every day: " + date);
            }
            if (number % 13 == 0 && !wheel.isSound()) {
                Check.fail("50 at " + date);
            }
            date = date.plusDays(1);
        }
        Check.holds("every day", date.equals(LocalDate.of(10000, 1, 1)));
    }
}
