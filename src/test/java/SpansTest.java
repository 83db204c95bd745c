import java.time.LocalDate;
import java.time.Period;

/** Promises 14 to 20. */
public final class SpansTest {
    public static void main(String[] args) {
        span();
        until();
        untilAll();
        go();
        goAll();
        goRefused();
        spanPart();
        addSpan();
        timesSpan();
        plainSpan();
        Check.end("SpansTest");
    }

    private static void holds(String what, Yearwheel wheel, int slot, int years, int months, int days) {
        Check.same(what + ", its years", years, wheel.spanPart(slot, 'y'));
        Check.same(what + ", its months", months, wheel.spanPart(slot, 'm'));
        Check.same(what + ", its days", days, wheel.spanPart(slot, 'd'));
    }

    private static Yearwheel with(int years, int months, int days) {
        Yearwheel wheel = new Yearwheel();
        wheel.span(0, years, months, days);
        return wheel;
    }

    private static void span() {
        Yearwheel wheel = new Yearwheel();
        Check.same("14 span", 27, wheel.span(3, 1, 15, 40));
        holds("14 span", wheel, 3, 1, 15, 40);
        holds("14 the others stay", wheel, 0, 0, 0, 0);
        Check.same("14 mixed signs", -13, wheel.span(0, -1, -1, 5));
        holds("14 mixed signs", wheel, 0, -1, -1, 5);
        Check.same("14 the most", 13000000, wheel.span(1, 1000000, 1000000, 1000000));
        holds("14 the most", wheel, 1, 1000000, 1000000, 1000000);
        Check.same("14 the least", -13000000, wheel.span(2, -1000000, -1000000, -1000000));
        holds("14 the least", wheel, 2, -1000000, -1000000, -1000000);
        Check.onlySlots("14 span", 4, (w, slot) -> w.span(slot, 1, 1, 1));
        Check.refused("14 the slot is looked at first", Check.INDEX, w -> w.span(4, 1000001, 0, 0));
        long[] none = {1000001, -1000001, Integer.MAX_VALUE, Integer.MIN_VALUE};
        Check.refusedNumbers("14 years", Check.ARGUMENT, (w, n) -> w.span(0, (int) n, 0, 0), none);
        Check.refusedNumbers("14 months", Check.ARGUMENT, (w, n) -> w.span(0, 0, (int) n, 0), none);
        Check.refusedNumbers("14 days", Check.ARGUMENT, (w, n) -> w.span(0, 0, 0, (int) n), none);
    }

    private static void until() {
        Yearwheel wheel = new Yearwheel();
        wheel.date(0, 2023, 1, 31);
        wheel.date(1, 2023, 2, 28);
        wheel.date(2, 2025, 3, 30);
        Check.same("15 no month", 0, wheel.until(0, 1, 3));
        holds("15 no month", wheel, 3, 0, 0, 28);
        Check.same("15 years", 25, wheel.until(0, 2, 0));
        holds("15 years", wheel, 0, 2, 1, 30);
        Check.same("15 to the same", 0, wheel.until(2, 2, 0));
        holds("15 to the same", wheel, 0, 0, 0, 0);
        Yearwheel wide = Check.stirred();
        Check.same("15 the whole way", 19998 * 12 + 11, wide.until(1, 2, 0));
        holds("15 the whole way", wide, 0, 19998, 11, 30);
        Check.onlySlots("15 until", 6, (w, slot) -> w.until(slot, 2, 0));
        Check.onlySlots("15 until", 6, (w, slot) -> w.until(1, slot, 0));
        Check.onlySlots("15 until", 4, (w, slot) -> w.until(1, 2, slot));
        Check.refused("15 the slots are looked at first", Check.INDEX, w -> w.until(2, 1, 4));
        Check.refused("15 the other one is ahead", Check.UNSUPPORTED, w -> w.until(2, 1, 0));
        Yearwheel near = new Yearwheel();
        near.ofDay(1, -1);
        Check.refusedOn("15 ahead by a day", Check.UNSUPPORTED, near, w -> w.until(0, 1, 0));
    }

    private static void untilAll() {
        for (int one = 0; one < 120; one++) {
            for (int other = 0; other < 500; other += 3) {
                LocalDate from = LocalDate.of(2023, 11, 25).plusDays(one);
                LocalDate upTo = from.plusDays(other);
                Yearwheel wheel = new Yearwheel();
                wheel.ofDay(4, from.toEpochDay());
                wheel.ofDay(5, upTo.toEpochDay());
                Period due = Period.between(from, upTo);
                Check.same("15 all months", due.toTotalMonths(), wheel.until(4, 5, 2));
                holds("15 " + from + " " + upTo, wheel, 2, due.getYears(), due.getMonths(), due.getDays());
                Check.same("15 it leads there", upTo.toEpochDay(), wheel.go(4, 2, false, 0));
            }
        }
    }

    private static void go() {
        Yearwheel wheel = with(0, 1, 1);
        wheel.date(0, 2023, 1, 31);
        Check.same("16 months, then days", LocalDate.of(2023, 3, 1).toEpochDay(), wheel.go(0, 0, false, 1));
        Check.same("16 its slot", LocalDate.of(2023, 3, 1).toEpochDay(), wheel.day(1));
        Check.same("16 back", LocalDate.of(2022, 12, 30).toEpochDay(), wheel.go(0, 0, true, 2));
        Check.same("16 the slot itself stays", LocalDate.of(2023, 1, 31).toEpochDay(), wheel.day(0));
        holds("16 the span stays", wheel, 0, 0, 1, 1);
        // All months at once: by a year first the 29th would be lost.
        wheel.span(1, 1, -12, 0);
        wheel.date(3, 2020, 2, 29);
        Check.same("16 all months at once", LocalDate.of(2020, 2, 29).toEpochDay(), wheel.go(3, 1, false, 4));
        // Only what comes at last is looked at.
        wheel.span(2, 0, 1, -40);
        wheel.date(5, 9999, 12, 31);
        Check.same("16 through another year", LocalDate.of(9999, 12, 22).toEpochDay(), wheel.go(5, 2, false, 5));
        wheel.date(5, -9999, 1, 1);
        Check.same("16 through another year back", LocalDate.of(-9999, 1, 10).toEpochDay(), wheel.go(5, 2, true, 5));
        wheel.span(3, 2737, -1, -1000000);
        wheel.date(5, 9999, 12, 31);
        long due = LocalDate.of(9999, 12, 31).plusMonths(2737 * 12 - 1).plusDays(-1000000).toEpochDay();
        Check.same("16 far behind and home", due, wheel.go(5, 3, false, 5));
    }

    private static void goAll() {
        int[][] spans = {{0, 0, 0}, {0, 1, 0}, {0, -1, 3}, {1, 13, -1}, {-3, 5, 100}, {400, 0, 1}, {0, 0, -366},
                {1000, -11999, 31}, {0, 11, -31}};
        for (LocalDate date = LocalDate.of(2023, 12, 20); date.getYear() < 2025; date = date.plusDays(1)) {
            for (int[] each : spans) {
                Yearwheel wheel = with(each[0], each[1], each[2]);
                Period span = Period.of(each[0], each[1], each[2]);
                wheel.ofDay(1, date.toEpochDay());
                Check.same("16 " + date + " by " + span, date.plus(span).toEpochDay(), wheel.go(1, 0, false, 2));
                Check.same("16 " + date + " back by " + span, date.minus(span).toEpochDay(), wheel.go(1, 0, true, 3));
            }
        }
    }

    private static void goRefused() {
        Check.onlySlots("16 go", 6, (w, slot) -> w.go(slot, 3, false, 0));
        Check.onlySlots("16 go", 4, (w, slot) -> w.go(0, slot, false, 0));
        Check.onlySlots("16 go", 6, (w, slot) -> w.go(0, 3, false, slot));
        Check.refused("16 the slots are looked at first", Check.INDEX, w -> w.go(0, 1, false, 6));
        Check.refused("16 far behind", Check.UNSUPPORTED, w -> w.go(0, 1, false, 0));
        Check.refused("16 far ahead", Check.UNSUPPORTED, w -> w.go(0, 1, true, 0));
        Check.refused("16 far ahead by a span below 0", Check.UNSUPPORTED, w -> w.go(0, 2, false, 0));
        Check.refused("16 ahead of the first", Check.UNSUPPORTED, w -> w.go(1, 3, false, 0));
        Check.refused("16 behind the last", Check.UNSUPPORTED, w -> w.go(2, 3, true, 0));
    }

    private static void spanPart() {
        for (int slot = 0; slot < 4; slot++) {
            Yearwheel wheel = new Yearwheel();
            wheel.span(slot, 7, -8, 9);
            for (int other = 0; other < 4; other++) {
                boolean it = slot == other;
                holds("17 spanPart", wheel, other, it ? 7 : 0, it ? -8 : 0, it ? 9 : 0);
            }
        }
        Check.onlySlots("17 spanPart", 4, (w, slot) -> w.spanPart(slot, 'y'));
        Check.refused("17 the slot is looked at first", Check.INDEX, w -> w.spanPart(4, 'x'));
        Check.refusedSigns("17 spanPart", "ymd", (w, sign) -> w.spanPart(0, sign));
    }

    private static void addSpan() {
        Yearwheel wheel = with(1, 15, 40);
        wheel.span(1, 2, 3, 40);
        Check.same("18 the sum", 54, wheel.addSpan(0, 1, false, 2));
        holds("18 the sum", wheel, 2, 3, 18, 80);
        Check.same("18 less", 0, wheel.addSpan(0, 1, true, 3));
        holds("18 less", wheel, 3, -1, 12, 0);
        holds("18 the one stays", wheel, 0, 1, 15, 40);
        Check.same("18 doubled in place", 54, wheel.addSpan(0, 0, false, 0));
        holds("18 doubled in place", wheel, 0, 2, 30, 80);
        Check.onlySlots("18 addSpan", 4, (w, slot) -> w.addSpan(slot, 0, false, 0));
        Check.onlySlots("18 addSpan", 4, (w, slot) -> w.addSpan(0, slot, false, 0));
        Check.onlySlots("18 addSpan", 4, (w, slot) -> w.addSpan(0, 0, false, slot));
        Check.refused("18 the slots are looked at first", Check.INDEX, w -> w.addSpan(1, 1, false, 4));
        for (int part = 0; part < 3; part++) {
            overEdge(part, 1);
            overEdge(part, -1);
        }
    }

    /** The sum, or the difference, of a part that is just in range, or just out of it. */
    private static void overEdge(int part, int sign) {
        int[] most = new int[3];
        int[] one = new int[3];
        most[part] = sign * 999999;
        one[part] = sign;
        Yearwheel wheel = with(most[0], most[1], most[2]);
        wheel.span(1, one[0], one[1], one[2]);
        wheel.span(2, -one[0], -one[1], -one[2]);
        wheel.addSpan(0, 1, false, 3);
        holds("18 the very edge", wheel, 3, most[0] + one[0], most[1] + one[1], most[2] + one[2]);
        wheel.addSpan(0, 2, true, 3);
        holds("18 the very edge by less", wheel, 3, most[0] + one[0], most[1] + one[1], most[2] + one[2]);
        Check.refusedOn("18 out of range", Check.UNSUPPORTED, wheel, w -> w.addSpan(3, 1, false, 0));
        Check.refusedOn("18 out of range by less", Check.UNSUPPORTED, wheel, w -> w.addSpan(3, 2, true, 0));
        wheel.span(2, most[0], most[1], most[2]);
        Check.refusedOn("18 far out of range", Check.UNSUPPORTED, wheel, w -> w.addSpan(2, 2, false, 2));
    }

    private static void timesSpan() {
        Yearwheel wheel = with(2, 3, -40);
        Check.same("19 twice back", -54, wheel.timesSpan(0, -2, 2));
        holds("19 twice back", wheel, 2, -4, -6, 80);
        Check.same("19 by 0", 0, wheel.timesSpan(0, 0, 3));
        holds("19 by 0", wheel, 3, 0, 0, 0);
        Check.same("19 by 100", 2700, wheel.timesSpan(0, 100, 1));
        holds("19 by 100", wheel, 1, 200, 300, -4000);
        Check.same("19 by -100", -2700, wheel.timesSpan(0, -100, 1));
        Check.same("19 in place", 27, wheel.timesSpan(0, 1, 0));
        holds("19 in place", wheel, 0, 2, 3, -40);
        Check.same("19 to the very edge", 12000000, with(10000, 0, 0).timesSpan(0, 100, 0));
        Check.onlySlots("19 timesSpan", 4, (w, slot) -> w.timesSpan(slot, 1, 0));
        Check.onlySlots("19 timesSpan", 4, (w, slot) -> w.timesSpan(0, 1, slot));
        Check.refused("19 the slots are looked at first", Check.INDEX, w -> w.timesSpan(0, 101, 4));
        Check.refusedNumbers("19 timesSpan", Check.ARGUMENT, (w, n) -> w.timesSpan(3, (int) n, 0), 101, -101,
                Integer.MAX_VALUE, Integer.MIN_VALUE);
        Check.refused("19 the number ahead of the outcome", Check.ARGUMENT, w -> w.timesSpan(1, 101, 0));
        int[][] tooFar = {{10001, 0, 0}, {0, 10001, 0}, {0, 0, 10001}, {-10001, 1, 1}, {1, -10001, 1}, {1, 1, -10001}};
        for (int[] each : tooFar) {
            Yearwheel far = with(each[0], each[1], each[2]);
            Check.same("19 just in range", 99L * (12 * each[0] + each[1]), far.timesSpan(0, 99, 1));
            Check.refusedOn("19 too far", Check.UNSUPPORTED, far, w -> w.timesSpan(0, 100, 0));
            Check.refusedOn("19 too far back", Check.UNSUPPORTED, far, w -> w.timesSpan(0, -100, 0));
        }
    }

    private static void plainSpan() {
        int[][] spans = {{1, 15, 40}, {-1, -15, 40}, {1, -15, -40}, {-1, 15, 5}, {0, 12, 0}, {0, -12, 0}, {0, 11, 400},
                {0, -11, 0}, {2, -24, 1}, {5, -1, 0}, {-5, 1, 0}, {0, 1000000, 1}, {999999, 12, 0}, {-999999, -12, 0},
                {1000000, 11, 0}, {-1000000, -11, 0}, {1000000, -1000000, 1000000}};
        for (int[] each : spans) {
            Yearwheel wheel = with(each[0], each[1], each[2]);
            Period due = Period.of(each[0], each[1], each[2]).normalized();
            Check.same("20 all months", due.toTotalMonths(), wheel.plainSpan(0, 3));
            holds("20 " + due, wheel, 3, due.getYears(), due.getMonths(), due.getDays());
            holds("20 the span itself stays", wheel, 0, each[0], each[1], each[2]);
        }
        Check.onlySlots("20 plainSpan", 4, (w, slot) -> w.plainSpan(slot, 0));
        Check.onlySlots("20 plainSpan", 4, (w, slot) -> w.plainSpan(0, slot));
        Check.refused("20 the slots are looked at first", Check.INDEX, w -> w.plainSpan(1, 4));
        Check.refused("20 too many years", Check.UNSUPPORTED, w -> w.plainSpan(1, 0));
        Check.refusedOn("20 a year too much", Check.UNSUPPORTED, with(1000000, 12, 0), w -> w.plainSpan(0, 0));
        Check.refusedOn("20 a year too little", Check.UNSUPPORTED, with(-1000000, -12, 0), w -> w.plainSpan(0, 0));
    }
}
