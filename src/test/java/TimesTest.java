import java.time.LocalTime;
import java.time.temporal.ChronoUnit;

/** Promises 26 to 32. */
public final class TimesTest {
    private static final long DAY = 86400000000000L;
    private static final long MOST = 1000000000000000L;

    public static void main(String[] args) {
        time();
        ofBillionths();
        timePart();
        moveTime();
        moveRefused();
        cutTime();
        goTime();
        orderTimes();
        Check.end("TimesTest");
    }

    private static Yearwheel at(long billionths) {
        Yearwheel wheel = new Yearwheel();
        wheel.ofBillionths(0, billionths);
        return wheel;
    }

    private static void holds(String what, LocalTime due, Yearwheel wheel, int slot) {
        Check.same(what + ", its hour", due.getHour(), wheel.timePart(slot, 'h'));
        Check.same(what + ", its minute", due.getMinute(), wheel.timePart(slot, 'm'));
        Check.same(what + ", its second", due.getSecond(), wheel.timePart(slot, 's'));
        Check.same(what + ", its billionths", due.getNano(), wheel.timePart(slot, 'n'));
    }

    private static void time() {
        Yearwheel wheel = new Yearwheel();
        Check.same("26 time", 86399000000005L, wheel.time(3, 23, 59, 59, 5));
        holds("26 time", LocalTime.of(23, 59, 59, 5), wheel, 3);
        holds("26 the others stay", LocalTime.MIDNIGHT, wheel, 0);
        Check.same("26 the most", DAY - 1, wheel.time(0, 23, 59, 59, 999999999));
        holds("26 the most", LocalTime.MAX, wheel, 0);
        Check.same("26 the least", 0, wheel.time(0, 0, 0, 0, 0));
        holds("26 the least", LocalTime.MIN, wheel, 0);
        Check.same("26 an hour", 3600000000000L, wheel.time(1, 1, 0, 0, 0));
        Check.same("26 a minute", 60000000000L, wheel.time(1, 0, 1, 0, 0));
        Check.same("26 a second", 1000000000L, wheel.time(1, 0, 0, 1, 0));
        Check.onlySlots("26 time", 4, (w, slot) -> w.time(slot, 1, 1, 1, 1));
        Check.refused("26 the slot is looked at first", Check.INDEX, w -> w.time(4, 24, 60, 60, -1));
        int least = Integer.MIN_VALUE;
        int most = Integer.MAX_VALUE;
        Check.refusedNumbers("26 an hour", Check.ARGUMENT, (w, n) -> w.time(0, (int) n, 0, 0, 0), 24, -1, least, most);
        Check.refusedNumbers("26 a minute", Check.ARGUMENT, (w, n) -> w.time(0, 0, (int) n, 0, 0), 60, -1, least, most);
        Check.refusedNumbers("26 a second", Check.ARGUMENT, (w, n) -> w.time(0, 0, 0, (int) n, 0), 60, -1, least, most);
        Check.refusedNumbers("26 billionths", Check.ARGUMENT, (w, n) -> w.time(0, 0, 0, 0, (int) n), 1000000000, -1,
                least, most);
    }

    private static void ofBillionths() {
        for (long number : new long[] {0, 1, 999999999, 1000000000, 3599999999999L, 3600000000000L, DAY / 2, DAY - 1}) {
            Yearwheel wheel = new Yearwheel();
            LocalTime due = LocalTime.ofNanoOfDay(number);
            Check.same("27 ofBillionths", due.getHour(), wheel.ofBillionths(2, number));
            holds("27 ofBillionths", due, wheel, 2);
        }
        Check.onlySlots("27 ofBillionths", 4, (w, slot) -> w.ofBillionths(slot, 0));
        Check.refused("27 the slot is looked at first", Check.INDEX, w -> w.ofBillionths(4, -1));
        Check.refusedNumbers("27 ofBillionths", Check.ARGUMENT, (w, n) -> w.ofBillionths(0, n), DAY, -1, Long.MIN_VALUE,
                Long.MAX_VALUE);
    }

    private static void timePart() {
        for (int slot = 0; slot < 4; slot++) {
            Yearwheel wheel = new Yearwheel();
            wheel.time(slot, 21, 43, 5, 123456789);
            for (int other = 0; other < 4; other++) {
                holds("28 timePart", slot == other ? LocalTime.of(21, 43, 5, 123456789) : LocalTime.MIN, wheel, other);
            }
        }
        Check.onlySlots("28 timePart", 4, (w, slot) -> w.timePart(slot, 'h'));
        Check.refused("28 the slot is looked at first", Check.INDEX, w -> w.timePart(4, 'x'));
        Check.refusedSigns("28 timePart", "hmsn", (w, sign) -> w.timePart(0, sign));
    }

    private static void moveTime() {
        long[] amounts = {0, 1, -1, 23, 24, 25, -24, -25, 59, 60, -61, 1440, -1441, 86399, 86400, -86401, DAY, -DAY,
                DAY + 1, 999999999, MOST, -MOST, MOST - 1, 1 - MOST};
        for (long time : new long[] {0, 1, 45015123456789L, DAY - 1}) {
            for (long amount : amounts) {
                LocalTime from = LocalTime.ofNanoOfDay(time);
                moved(from, 'h', amount, from.plus(amount % 24, ChronoUnit.HOURS));
                moved(from, 'm', amount, from.plus(amount % 1440, ChronoUnit.MINUTES));
                moved(from, 's', amount, from.plus(amount % 86400, ChronoUnit.SECONDS));
                moved(from, 'n', amount, from.plus(amount % DAY, ChronoUnit.NANOS));
            }
        }
        Yearwheel wheel = at(DAY - 1);
        Check.same("29 in place", 0, wheel.moveTime(0, 'n', 1, 0));
        Check.same("29 and back", DAY - 1, wheel.moveTime(0, 'n', -1, 0));
    }

    private static void moved(LocalTime from, char unit, long amount, LocalTime due) {
        Yearwheel wheel = at(from.toNanoOfDay());
        Check.same("29 " + from + " by " + amount + unit, due.toNanoOfDay(), wheel.moveTime(0, unit, amount, 3));
        holds("29 its slot", due, wheel, 3);
        holds("29 the slot itself stays", from, wheel, 0);
    }

    private static void moveRefused() {
        Check.onlySlots("29 moveTime", 4, (w, slot) -> w.moveTime(slot, 'h', 1, 0));
        Check.onlySlots("29 moveTime", 4, (w, slot) -> w.moveTime(0, 'h', 1, slot));
        Check.refused("29 the slots are looked at first", Check.INDEX, w -> w.moveTime(0, 'x', MOST + 1, 4));
        Check.refusedSigns("29 moveTime", "hmsn", (w, sign) -> w.moveTime(0, sign, 1, 0));
        for (char unit : "hmsn".toCharArray()) {
            Check.refusedNumbers("29 moveTime", Check.ARGUMENT, (w, n) -> w.moveTime(0, unit, n, 0), MOST + 1,
                    -MOST - 1, Long.MAX_VALUE, Long.MIN_VALUE);
        }
    }

    private static void cutTime() {
        for (long time : new long[] {0, 1, 45015123456789L, DAY - 1, 3600000000000L, 3599999999999L}) {
            LocalTime from = LocalTime.ofNanoOfDay(time);
            cut(from, 'h', from.truncatedTo(ChronoUnit.HOURS));
            cut(from, 'm', from.truncatedTo(ChronoUnit.MINUTES));
            cut(from, 's', from.truncatedTo(ChronoUnit.SECONDS));
            cut(from, 'd', LocalTime.MIDNIGHT);
        }
        Yearwheel wheel = at(DAY - 1);
        Check.same("30 in place", 86340000000000L, wheel.cutTime(0, 'm', 0));
        Check.same("30 to the day in place", 0, wheel.cutTime(0, 'd', 0));
        holds("30 to the day in place", LocalTime.MIDNIGHT, wheel, 0);
        Check.onlySlots("30 cutTime", 4, (w, slot) -> w.cutTime(slot, 'h', 0));
        Check.onlySlots("30 cutTime", 4, (w, slot) -> w.cutTime(0, 'h', slot));
        Check.refused("30 the slots are looked at first", Check.INDEX, w -> w.cutTime(0, 'x', 4));
        Check.refusedSigns("30 cutTime", "hmsd", (w, sign) -> w.cutTime(0, sign, 0));
    }

    private static void cut(LocalTime from, char unit, LocalTime due) {
        Yearwheel wheel = at(from.toNanoOfDay());
        Check.same("30 " + from + " to " + unit, due.toNanoOfDay(), wheel.cutTime(0, unit, 2));
        holds("30 its slot", due, wheel, 2);
        holds("30 the slot itself stays", from, wheel, 0);
    }

    private static void goTime() {
        long[][] lengths = {{0, 0}, {0, 1}, {-1, 999999999}, {3600, 0}, {86400, 0}, {86399, 999999999}, {-86400, 5},
                {-86401, 999999999}, {1000000000000L, 0}, {-1000000000000L, 0}, {-1000000000000L, 1},
                {999999999999L, 999999999}, {93784, 500000001}};
        for (long time : new long[] {0, 1, 45015123456789L, DAY - 1}) {
            for (long[] each : lengths) {
                LocalTime from = LocalTime.ofNanoOfDay(time);
                Yearwheel wheel = at(time);
                wheel.length(3, each[0], each[1]);
                LocalTime on = from.plusSeconds(each[0]).plusNanos(each[1]);
                LocalTime back = from.minusSeconds(each[0]).minusNanos(each[1]);
                Check.same("31 on", on.toNanoOfDay(), wheel.goTime(0, 3, false, 1));
                holds("31 its slot", on, wheel, 1);
                Check.same("31 back", back.toNanoOfDay(), wheel.goTime(0, 3, true, 2));
                holds("31 its slot", back, wheel, 2);
                holds("31 the slot itself stays", from, wheel, 0);
                Check.same("31 the length stays", each[0], wheel.lengthPart(3, 's'));
                Check.same("31 in place", on.toNanoOfDay(), wheel.goTime(0, 3, false, 0));
            }
        }
        Check.onlySlots("31 goTime", 4, (w, slot) -> w.goTime(slot, 0, false, 0));
        Check.onlySlots("31 goTime", 4, (w, slot) -> w.goTime(0, slot, false, 0));
        Check.onlySlots("31 goTime", 4, (w, slot) -> w.goTime(0, 0, true, slot));
    }

    private static void orderTimes() {
        Yearwheel wheel = Check.stirred();
        int[] due = {2, 0, 3, 1};
        for (int slot = 0; slot < 4; slot++) {
            for (int other = 0; other < 4; other++) {
                Check.same("32 orderTimes", Integer.compare(due[slot], due[other]), wheel.orderTimes(slot, other));
            }
        }
        Check.onlySlots("32 orderTimes", 4, (w, slot) -> w.orderTimes(slot, 0));
        Check.onlySlots("32 orderTimes", 4, (w, slot) -> w.orderTimes(0, slot));
    }
}
