import java.time.Duration;
import java.time.LocalDate;
import java.time.LocalDateTime;
import java.time.LocalTime;
import java.time.temporal.ChronoUnit;

/** Promises 39 to 46. */
public final class MomentsTest {
    private static final long MOST = 1000000000000000L;
    private static final LocalDateTime FIRST = LocalDateTime.of(-9999, 1, 1, 0, 0);
    private static final LocalDateTime LAST = LocalDateTime.of(LocalDate.of(9999, 12, 31), LocalTime.MAX);
    private static final LocalDateTime[] MOMENTS = {FIRST, FIRST.plusNanos(1), LAST, LAST.minusNanos(1),
            LocalDateTime.of(1970, 1, 1, 0, 0), LocalDateTime.of(1969, 12, 31, 23, 59, 59, 999999999),
            LocalDateTime.of(2020, 2, 29, 12, 30, 15, 5), LocalDateTime.of(2020, 2, 29, 12, 30, 15, 4),
            LocalDateTime.of(2020, 3, 1, 12, 30, 15, 5), LocalDateTime.of(2020, 3, 1, 12, 30, 15, 4),
            LocalDateTime.of(2020, 3, 1, 12, 30, 15, 6), LocalDateTime.of(0, 12, 31, 23, 0),
            LocalDateTime.of(2023, 1, 31, 1, 0), LocalDateTime.of(2023, 1, 31, 0, 59, 59)};

    public static void main(String[] args) {
        moment();
        dateOf();
        timeOf();
        moveByDates();
        moveByTimes();
        moveRefused();
        goMoment();
        goRefused();
        lengthOfMoments();
        whole();
        orderMoments();
        Check.end("MomentsTest");
    }

    /** With the moment in the slot 0, and nothing of it in the slots of dates and times. */
    private static Yearwheel at(LocalDateTime moment) {
        Yearwheel wheel = new Yearwheel();
        put(wheel, 0, moment);
        return wheel;
    }

    private static void put(Yearwheel wheel, int slot, LocalDateTime moment) {
        wheel.ofDay(5, moment.toLocalDate().toEpochDay());
        wheel.ofBillionths(3, moment.toLocalTime().toNanoOfDay());
        wheel.moment(slot, 5, 3);
        wheel.ofDay(5, 0);
        wheel.ofBillionths(3, 0);
    }

    private static void holds(String what, LocalDateTime due, Yearwheel wheel, int slot) {
        long day = due.toLocalDate().toEpochDay();
        long time = due.toLocalTime().toNanoOfDay();
        Check.same(what + ", its date", day, wheel.dateOf(slot, 4));
        Check.same(what + ", its time", time, wheel.timeOf(slot, 2));
    }

    private static boolean isTold(LocalDateTime moment) {
        return moment.getYear() >= -9999 && moment.getYear() <= 9999;
    }

    private static void moment() {
        Yearwheel wheel = new Yearwheel();
        wheel.date(5, 1999, 12, 31);
        wheel.time(3, 23, 0, 0, 7);
        Check.same("39 moment", 10956, wheel.moment(2, 5, 3));
        holds("39 moment", LocalDateTime.of(1999, 12, 31, 23, 0, 0, 7), wheel, 2);
        holds("39 the others stay", LocalDateTime.of(1970, 1, 1, 0, 0), wheel, 1);
        wheel.date(5, 2000, 1, 1);
        wheel.time(3, 0, 0, 0, 0);
        holds("39 it stays as it was", LocalDateTime.of(1999, 12, 31, 23, 0, 0, 7), wheel, 2);
        for (int slot = 0; slot < 4; slot++) {
            Yearwheel edges = Check.stirred();
            Check.same("39 each slot", edges.day(2), edges.moment(slot, 2, 2));
            holds("39 each slot", LAST, edges, slot);
        }
        Check.onlySlots("39 moment", 4, (w, slot) -> w.moment(slot, 0, 0));
        Check.onlySlots("39 moment", 6, (w, slot) -> w.moment(0, slot, 0));
        Check.onlySlots("39 moment", 4, (w, slot) -> w.moment(0, 0, slot));
    }

    private static void dateOf() {
        for (LocalDateTime moment : MOMENTS) {
            Yearwheel wheel = at(moment);
            long due = moment.toLocalDate().toEpochDay();
            Check.same("40 dateOf", due, wheel.dateOf(0, 5));
            Check.same("40 its slot", due, wheel.day(5));
            Check.same("40 the others stay", 0, wheel.day(0));
        }
        Check.onlySlots("40 dateOf", 4, (w, slot) -> w.dateOf(slot, 0));
        Check.onlySlots("40 dateOf", 6, (w, slot) -> w.dateOf(0, slot));
    }

    private static void timeOf() {
        for (LocalDateTime moment : MOMENTS) {
            Yearwheel wheel = at(moment);
            LocalTime due = moment.toLocalTime();
            Check.same("41 timeOf", due.toNanoOfDay(), wheel.timeOf(0, 3));
            Check.same("41 its slot", due.getHour(), wheel.timePart(3, 'h'));
            Check.same("41 its slot", due.getNano(), wheel.timePart(3, 'n'));
            Check.same("41 the others stay", 0, wheel.timePart(0, 'n'));
        }
        Check.onlySlots("41 timeOf", 4, (w, slot) -> w.timeOf(slot, 0));
        Check.onlySlots("41 timeOf", 4, (w, slot) -> w.timeOf(0, slot));
    }

    private static void moveByDates() {
        long[] amounts = {0, 1, -1, 11, 12, -13, 365, -366, 12000, -12000, 95758, 240000, 1000000, -1000000};
        for (LocalDateTime from : MOMENTS) {
            for (long amount : amounts) {
                moved(from, 'd', amount, from.plusDays(amount));
                moved(from, 'w', amount, from.plusWeeks(amount));
                moved(from, 'm', amount, from.plusMonths(amount));
                moved(from, 'y', amount, from.plusYears(amount));
            }
        }
    }

    private static void moveByTimes() {
        long[] amounts = {0, 1, -1, 23, -24, 25, 86399, 86400, -86401, 1000000, -1000001, 172800000000001L,
                400000000000L, -400000000000L, MOST, -MOST};
        for (LocalDateTime from : MOMENTS) {
            for (long amount : amounts) {
                clockMoved(from, 'h', amount, 24, ChronoUnit.HOURS);
                clockMoved(from, 'i', amount, 1440, ChronoUnit.MINUTES);
                clockMoved(from, 's', amount, 86400, ChronoUnit.SECONDS);
                clockMoved(from, 'n', amount, 86400000000000L, ChronoUnit.NANOS);
            }
        }
    }

    private static void clockMoved(LocalDateTime from, char unit, long amount, long inDay, ChronoUnit due) {
        // java.time has an end too, far behind ours.
        if (Math.abs(amount / inDay) > 100000000) {
            Check.refusedOn("42 far", Check.UNSUPPORTED, at(from), w -> w.moveMoment(0, unit, amount, 1));
        } else {
            moved(from, unit, amount, from.plusDays(amount / inDay).plus(amount % inDay, due));
        }
    }

    private static void moved(LocalDateTime from, char unit, long amount, LocalDateTime due) {
        Yearwheel wheel = at(from);
        String what = "42 " + from + " by " + amount + unit;
        if (!isTold(due)) {
            Check.refusedOn(what, Check.UNSUPPORTED, wheel, w -> w.moveMoment(0, unit, amount, 0));
            return;
        }
        Check.same(what, due.toLocalDate().toEpochDay(), wheel.moveMoment(0, unit, amount, 3));
        holds(what, due, wheel, 3);
        holds("42 the slot itself stays", from, wheel, 0);
        wheel.moveMoment(0, unit, amount, 0);
        holds("42 in place", due, wheel, 0);
    }

    private static void moveRefused() {
        Check.onlySlots("42 moveMoment", 4, (w, slot) -> w.moveMoment(slot, 'h', 0, 0));
        Check.onlySlots("42 moveMoment", 4, (w, slot) -> w.moveMoment(0, 'h', 0, slot));
        Check.refused("42 the slots are looked at first", Check.INDEX, w -> w.moveMoment(0, 'x', MOST + 1, 4));
        Check.refusedSigns("42 moveMoment", "ymwdhisn", (w, sign) -> w.moveMoment(0, sign, 1, 0));
        for (char unit : "ymwd".toCharArray()) {
            Check.refusedNumbers("42 moveMoment", Check.ARGUMENT, (w, n) -> w.moveMoment(0, unit, n, 0), 1000001,
                    -1000001, MOST, -MOST, Long.MAX_VALUE, Long.MIN_VALUE, 1L << 32, (1L << 32) + 1);
        }
        for (char unit : "hisn".toCharArray()) {
            Check.refusedNumbers("42 moveMoment", Check.ARGUMENT, (w, n) -> w.moveMoment(0, unit, n, 0), MOST + 1,
                    -MOST - 1, Long.MAX_VALUE, Long.MIN_VALUE);
            Check.refused("42 behind the last", Check.UNSUPPORTED, w -> w.moveMoment(2, unit, 1, 0));
            Check.refused("42 ahead of the first", Check.UNSUPPORTED, w -> w.moveMoment(1, unit, -1, 0));
        }
        Check.refused("42 the number ahead of the outcome", Check.ARGUMENT, w -> w.moveMoment(2, 'y', 1000001, 0));
    }

    private static void goMoment() {
        long[][] lengths = {{0, 0}, {0, 1}, {-1, 999999999}, {3600, 0}, {86400, 0}, {86399, 999999999}, {-86400, 5},
                {-86401, 999999999}, {1000000000000L, 0}, {-1000000000000L, 0}, {-1000000000000L, 1},
                {300000000000L, 999999999}, {-300000000000L, 1}};
        for (LocalDateTime from : MOMENTS) {
            for (long[] each : lengths) {
                Duration length = Duration.ofSeconds(each[0], each[1]);
                gone(from, length, false, from.plus(length));
                gone(from, length, true, from.minus(length));
            }
        }
    }

    private static void gone(LocalDateTime from, Duration length, boolean isBack, LocalDateTime due) {
        Yearwheel wheel = at(from);
        wheel.length(2, length.getSeconds(), length.getNano());
        String what = "43 " + from + (isBack ? " back by " : " on by ") + length;
        if (!isTold(due)) {
            Check.refusedOn(what, Check.UNSUPPORTED, wheel, w -> w.goMoment(0, 2, isBack, 0));
            return;
        }
        Check.same(what, due.toLocalDate().toEpochDay(), wheel.goMoment(0, 2, isBack, 1));
        holds(what, due, wheel, 1);
        holds("43 the slot itself stays", from, wheel, 0);
        Check.same("43 the length stays", length.getSeconds(), wheel.lengthPart(2, 's'));
        wheel.goMoment(0, 2, isBack, 0);
        holds("43 in place", due, wheel, 0);
    }

    private static void goRefused() {
        Check.onlySlots("43 goMoment", 4, (w, slot) -> w.goMoment(slot, 2, false, 0));
        Check.onlySlots("43 goMoment", 4, (w, slot) -> w.goMoment(0, slot, false, 0));
        Check.onlySlots("43 goMoment", 4, (w, slot) -> w.goMoment(0, 2, false, slot));
        Check.refused("43 the slots are looked at first", Check.INDEX, w -> w.goMoment(0, 0, false, 4));
        Check.refused("43 behind the last", Check.UNSUPPORTED, w -> w.goMoment(2, 3, false, 0));
        Check.refused("43 ahead of the first", Check.UNSUPPORTED, w -> w.goMoment(1, 3, true, 0));
        Check.refused("43 ahead of the first by less than 0", Check.UNSUPPORTED, w -> w.goMoment(1, 2, false, 0));
    }

    private static Yearwheel two(LocalDateTime one, LocalDateTime other) {
        Yearwheel wheel = at(one);
        put(wheel, 3, other);
        return wheel;
    }

    private static void lengthOfMoments() {
        for (LocalDateTime one : MOMENTS) {
            for (LocalDateTime other : MOMENTS) {
                Yearwheel wheel = two(one, other);
                Duration due = Duration.between(one, other);
                Check.same("44 lengthOfMoments", due.getSeconds(), wheel.lengthOfMoments(0, 3, 2));
                Check.same("44 its seconds", due.getSeconds(), wheel.lengthPart(2, 's'));
                Check.same("44 its billionths", due.getNano(), wheel.lengthPart(2, 'n'));
                Check.same("44 it leads there", other.toLocalDate().toEpochDay(), wheel.goMoment(0, 2, false, 1));
                holds("44 it leads there", other, wheel, 1);
            }
        }
        Check.onlySlots("44 lengthOfMoments", 4, (w, slot) -> w.lengthOfMoments(slot, 0, 0));
        Check.onlySlots("44 lengthOfMoments", 4, (w, slot) -> w.lengthOfMoments(0, slot, 0));
        Check.onlySlots("44 lengthOfMoments", 4, (w, slot) -> w.lengthOfMoments(0, 0, slot));
    }

    private static void whole() {
        for (LocalDateTime one : MOMENTS) {
            for (LocalDateTime other : MOMENTS) {
                Yearwheel wheel = two(one, other);
                String what = "45 from " + one + " to " + other;
                Check.same(what + " d", ChronoUnit.DAYS.between(one, other), wheel.whole(0, 3, 'd'));
                Check.same(what + " h", ChronoUnit.HOURS.between(one, other), wheel.whole(0, 3, 'h'));
                Check.same(what + " i", ChronoUnit.MINUTES.between(one, other), wheel.whole(0, 3, 'i'));
                Check.same(what + " s", ChronoUnit.SECONDS.between(one, other), wheel.whole(0, 3, 's'));
            }
        }
        Check.onlySlots("45 whole", 4, (w, slot) -> w.whole(slot, 0, 'd'));
        Check.onlySlots("45 whole", 4, (w, slot) -> w.whole(0, slot, 'd'));
        Check.refused("45 the slots are looked at first", Check.INDEX, w -> w.whole(0, 4, 'x'));
        Check.refusedSigns("45 whole", "dhis", (w, sign) -> w.whole(0, 1, sign));
    }

    private static void orderMoments() {
        for (LocalDateTime one : MOMENTS) {
            for (LocalDateTime other : MOMENTS) {
                Check.same("46 orderMoments", Integer.signum(one.compareTo(other)), two(one, other).orderMoments(0, 3));
            }
        }
        Check.onlySlots("46 orderMoments", 4, (w, slot) -> w.orderMoments(slot, 0));
        Check.onlySlots("46 orderMoments", 4, (w, slot) -> w.orderMoments(0, slot));
    }
}
