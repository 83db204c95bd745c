import java.math.BigInteger;
import java.time.Duration;

/** Promises 33 to 38. */
public final class LengthsTest {
    private static final long MOST_SECONDS = 1000000000000L;
    private static final long MOST_BILLIONTHS = 1000000000000000L;
    private static final long[][] LENGTHS = {{0, 0}, {0, 1}, {-1, 999999999}, {-1, 1}, {1, 0}, {-1, 0}, {5, 500000000},
            {MOST_SECONDS, 0}, {-MOST_SECONDS, 0}, {-MOST_SECONDS, 1}, {MOST_SECONDS - 1, 999999999},
            {MOST_SECONDS / 2, 0}, {MOST_SECONDS / 2, 1}, {-MOST_SECONDS / 2, 0}, {-MOST_SECONDS / 2 - 1, 999999999},
            {1000000000L, 0}, {1000000000L, 1}, {-1000000000L, 0}, {-1000000001L, 999999999}, {999999999, 999999999}};

    public static void main(String[] args) {
        length();
        lengthRefused();
        lengthPart();
        addLength();
        timesLength();
        lengthOfTimes();
        orderLengths();
        Check.end("LengthsTest");
    }

    private static void holds(String what, Duration due, Yearwheel wheel, int slot) {
        Check.same(what + ", its seconds", due.getSeconds(), wheel.lengthPart(slot, 's'));
        Check.same(what + ", its billionths", due.getNano(), wheel.lengthPart(slot, 'n'));
    }

    private static boolean isTold(Duration length) {
        Duration most = Duration.ofSeconds(MOST_SECONDS);
        return length.compareTo(most) <= 0 && length.compareTo(most.negated()) >= 0;
    }

    private static void length() {
        Yearwheel wheel = new Yearwheel();
        Check.same("33 length", -1, wheel.length(1, -1, 1));
        holds("33 length", Duration.ofSeconds(-1, 1), wheel, 1);
        holds("33 the others stay", Duration.ZERO, wheel, 0);
        long[] seconds = {0, 1, -1, 1000000, -1000000, MOST_SECONDS, -MOST_SECONDS, MOST_SECONDS - 1,
                1 - MOST_SECONDS, MOST_SECONDS - 1000000, 1000000 - MOST_SECONDS};
        long[] billionths = {0, 1, -1, 999999999, 1000000000, -999999999, -1000000000, -1000000001, 1000000001,
                MOST_BILLIONTHS, -MOST_BILLIONTHS, MOST_BILLIONTHS - 1, 1 - MOST_BILLIONTHS};
        for (long each : seconds) {
            for (long more : billionths) {
                Duration due = Duration.ofSeconds(each, more);
                String what = "33 " + each + " s and " + more;
                if (isTold(due)) {
                    Check.same(what, due.getSeconds(), wheel.length(3, each, more));
                    holds(what, due, wheel, 3);
                } else {
                    Check.refused(what, Check.UNSUPPORTED, w -> w.length(2, each, more));
                }
            }
        }
    }

    private static void lengthRefused() {
        Check.onlySlots("33 length", 4, (w, slot) -> w.length(slot, 0, 0));
        Check.refused("33 the slot is looked at first", Check.INDEX, w -> w.length(4, MOST_SECONDS + 1, 1));
        Check.refusedNumbers("33 seconds", Check.ARGUMENT, (w, n) -> w.length(0, n, 0), MOST_SECONDS + 1,
                -MOST_SECONDS - 1, Long.MAX_VALUE, Long.MIN_VALUE);
        Check.refused("33 seconds that billionths would mend", Check.ARGUMENT,
                w -> w.length(0, MOST_SECONDS + 1, -1000000000));
        Check.refusedNumbers("33 billionths", Check.ARGUMENT, (w, n) -> w.length(0, 0, n), MOST_BILLIONTHS + 1,
                -MOST_BILLIONTHS - 1, Long.MAX_VALUE, Long.MIN_VALUE);
        Check.refused("33 the number ahead of the outcome", Check.ARGUMENT,
                w -> w.length(0, MOST_SECONDS, MOST_BILLIONTHS + 1));
        Check.refused("33 a billionth too much", Check.UNSUPPORTED, w -> w.length(2, MOST_SECONDS, 1));
        Check.refused("33 a billionth too little", Check.UNSUPPORTED, w -> w.length(2, -MOST_SECONDS, -1));
    }

    private static void lengthPart() {
        for (int slot = 0; slot < 4; slot++) {
            Yearwheel wheel = new Yearwheel();
            wheel.length(slot, 7, 9);
            for (int other = 0; other < 4; other++) {
                holds("34 lengthPart", slot == other ? Duration.ofSeconds(7, 9) : Duration.ZERO, wheel, other);
            }
        }
        Check.onlySlots("34 lengthPart", 4, (w, slot) -> w.lengthPart(slot, 's'));
        Check.refused("34 the slot is looked at first", Check.INDEX, w -> w.lengthPart(4, 'x'));
        Check.refusedSigns("34 lengthPart", "sn", (w, sign) -> w.lengthPart(0, sign));
    }

    private static void addLength() {
        for (long[] one : LENGTHS) {
            for (long[] other : LENGTHS) {
                Duration first = Duration.ofSeconds(one[0], one[1]);
                Duration second = Duration.ofSeconds(other[0], other[1]);
                added(first, second, false, first.plus(second));
                added(first, second, true, first.minus(second));
            }
        }
        Yearwheel wheel = new Yearwheel();
        wheel.length(1, -3, 600000000);
        Check.same("35 in place", -5, wheel.addLength(1, 1, false, 1));
        holds("35 in place", Duration.ofSeconds(-5, 200000000), wheel, 1);
        Check.onlySlots("35 addLength", 4, (w, slot) -> w.addLength(slot, 2, false, 0));
        Check.onlySlots("35 addLength", 4, (w, slot) -> w.addLength(0, slot, false, 0));
        Check.onlySlots("35 addLength", 4, (w, slot) -> w.addLength(0, 2, false, slot));
        Check.refused("35 the slots are looked at first", Check.INDEX, w -> w.addLength(0, 0, false, 4));
    }

    private static void added(Duration one, Duration other, boolean isLess, Duration due) {
        Yearwheel wheel = new Yearwheel();
        wheel.length(0, one.getSeconds(), one.getNano());
        wheel.length(1, other.getSeconds(), other.getNano());
        String what = "35 " + one + (isLess ? " less " : " and ") + other;
        if (isTold(due)) {
            Check.same(what, due.getSeconds(), wheel.addLength(0, 1, isLess, 2));
            holds(what, due, wheel, 2);
            holds("35 the one stays", one, wheel, 0);
            holds("35 the other one stays", other, wheel, 1);
        } else {
            Check.refusedOn(what, Check.UNSUPPORTED, wheel, w -> w.addLength(0, 1, isLess, 2));
        }
    }

    private static void timesLength() {
        for (long[] each : LENGTHS) {
            for (int n : new int[] {0, 1, -1, 2, -2, 3, 999, -999, 1000, -1000}) {
                Duration length = Duration.ofSeconds(each[0], each[1]);
                Duration due = length.multipliedBy(n);
                Yearwheel wheel = new Yearwheel();
                wheel.length(0, each[0], each[1]);
                String what = "36 " + length + " by " + n;
                if (isTold(due)) {
                    Check.same(what, due.getSeconds(), wheel.timesLength(0, n, 2));
                    holds(what, due, wheel, 2);
                    holds("36 the length stays", length, wheel, 0);
                } else {
                    Check.refusedOn(what, Check.UNSUPPORTED, wheel, w -> w.timesLength(0, n, 2));
                }
            }
        }
        Check.onlySlots("36 timesLength", 4, (w, slot) -> w.timesLength(slot, 0, 0));
        Check.onlySlots("36 timesLength", 4, (w, slot) -> w.timesLength(0, 0, slot));
        Check.refused("36 the slots are looked at first", Check.INDEX, w -> w.timesLength(0, 1001, 4));
        Check.refusedNumbers("36 timesLength", Check.ARGUMENT, (w, n) -> w.timesLength(2, (int) n, 0), 1001, -1001,
                Integer.MAX_VALUE, Integer.MIN_VALUE);
        Check.refused("36 the number ahead of the outcome", Check.ARGUMENT, w -> w.timesLength(0, 1001, 0));
        Check.refused("36 too much", Check.UNSUPPORTED, w -> w.timesLength(0, 2, 0));
    }

    private static void lengthOfTimes() {
        long day = 86400000000000L;
        long[] times = {0, 1, 999999999, 1000000000, 45015123456789L, day - 1, day - 1000000000, day - 999999999};
        for (long one : times) {
            for (long other : times) {
                Yearwheel wheel = new Yearwheel();
                wheel.ofBillionths(0, one);
                wheel.ofBillionths(1, other);
                Duration due = Duration.ofNanos(other - one);
                Check.same("37 lengthOfTimes", due.getSeconds(), wheel.lengthOfTimes(0, 1, 3));
                holds("37 lengthOfTimes", due, wheel, 3);
                Check.same("37 its billionths", BigInteger.valueOf(other - one).mod(BigInteger.valueOf(1000000000))
                        .longValue(), wheel.lengthPart(3, 'n'));
            }
        }
        Check.onlySlots("37 lengthOfTimes", 4, (w, slot) -> w.lengthOfTimes(slot, 0, 0));
        Check.onlySlots("37 lengthOfTimes", 4, (w, slot) -> w.lengthOfTimes(0, slot, 0));
        Check.onlySlots("37 lengthOfTimes", 4, (w, slot) -> w.lengthOfTimes(0, 0, slot));
    }

    private static void orderLengths() {
        for (long[] one : LENGTHS) {
            for (long[] other : LENGTHS) {
                Yearwheel wheel = new Yearwheel();
                wheel.length(2, one[0], one[1]);
                wheel.length(3, other[0], other[1]);
                int due = Duration.ofSeconds(one[0], one[1]).compareTo(Duration.ofSeconds(other[0], other[1]));
                Check.same("38 orderLengths", Integer.signum(due), wheel.orderLengths(2, 3));
            }
        }
        Check.onlySlots("38 orderLengths", 4, (w, slot) -> w.orderLengths(slot, 0));
        Check.onlySlots("38 orderLengths", 4, (w, slot) -> w.orderLengths(0, slot));
    }
}
