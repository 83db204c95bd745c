import java.util.Arrays;

/** Counts the answers that are not as due, and makes the wheels that the tests begin with. */
final class Check {
    static final Class<?> INDEX = IndexOutOfBoundsException.class;
    static final Class<?> ARGUMENT = IllegalArgumentException.class;
    static final Class<?> UNSUPPORTED = UnsupportedOperationException.class;
    static final int DATE_SLOTS = 6;
    static final int SLOTS = 4;

    private static int done = 0;
    private static int wrong = 0;

    interface Call {
        void on(Yearwheel wheel);
    }

    interface SlotCall {
        void on(Yearwheel wheel, int slot);
    }

    interface NumberCall {
        void on(Yearwheel wheel, long number);
    }

    interface SignCall {
        void on(Yearwheel wheel, char sign);
    }

    private Check() {
    }

    static int done() {
        return done;
    }

    static void same(String what, long due, long got) {
        done++;
        if (due != got) {
            fail(what + ": answered " + got + ", due is " + due);
        }
    }

    static void sameReal(String what, double due, double got) {
        done++;
        if (due != got) {
            fail(what + ": answered " + got + ", due is " + due);
        }
    }

    static void holds(String what, boolean got) {
        done++;
        if (!got) {
            fail(what);
        }
    }

    static void fail(String what) {
        wrong++;
        if (wrong <= 50) {
            System.out.println("wrong: " + what);
        }
    }

    /** A call on a stirred wheel throws just that, and changes nothing. */
    static void refused(String what, Class<?> due, Call call) {
        refusedOn(what, due, stirred(), call);
    }

    static void refusedOn(String what, Class<?> due, Yearwheel wheel, Call call) {
        long[] before = picture(wheel);
        Class<?> got = thrown(() -> call.on(wheel));
        done++;
        if (got != due) {
            fail(what + ": threw " + got + ", due is " + due);
        }
        holds(what + ": a refused call changed something", Arrays.equals(before, picture(wheel)));
    }

    /** The slots 0 to count - 1 are taken, on a new wheel, and no other number is. */
    static void onlySlots(String what, int count, SlotCall call) {
        for (int slot = 0; slot < count; slot++) {
            int each = slot;
            holds(what + " takes the slot " + slot, thrown(() -> call.on(new Yearwheel(), each)) == null);
        }
        for (int slot : new int[] {-1, count, count + 1, -count, 256, Integer.MIN_VALUE, Integer.MAX_VALUE}) {
            refused(what + " with the slot " + slot, INDEX, wheel -> call.on(wheel, slot));
        }
    }

    static void refusedNumbers(String what, Class<?> due, NumberCall call, long... numbers) {
        for (long number : numbers) {
            refused(what + " with " + number, due, wheel -> call.on(wheel, number));
        }
    }

    /** Every sign beside the told ones is refused as an argument. */
    static void refusedSigns(String what, String told, SignCall call) {
        for (char sign = 0; sign < 300; sign++) {
            char each = sign;
            if (told.indexOf(each) < 0) {
                refused(what + " with the sign " + (int) each, ARGUMENT, wheel -> call.on(wheel, each));
            }
        }
        refused(what + " with the last sign", ARGUMENT, wheel -> call.on(wheel, Character.MAX_VALUE));
        for (char each : told.toCharArray()) {
            refused(what + " with a sign beyond 255", ARGUMENT, wheel -> call.on(wheel, (char) (each + 256)));
            refused(what + " with a far sign", ARGUMENT, wheel -> call.on(wheel, (char) (each + 32768)));
        }
    }

    static Class<?> thrown(Runnable call) {
        try {
            call.run();
            return null;
        } catch (Throwable thrown) {
            return thrown.getClass();
        }
    }

    /** With the edges of all kinds in its slots. */
    static Yearwheel stirred() {
        Yearwheel wheel = new Yearwheel();
        wheel.time(0, 23, 59, 59, 5);
        wheel.time(1, 0, 0, 0, 0);
        wheel.time(2, 23, 59, 59, 999999999);
        wheel.time(3, 12, 30, 15, 500000000);
        wheel.date(0, 2020, 2, 29);
        wheel.date(1, -9999, 1, 1);
        wheel.date(2, 9999, 12, 31);
        wheel.date(3, 2023, 1, 31);
        wheel.date(4, 1900, 2, 28);
        wheel.date(5, 0, 12, 30);
        for (int slot = 0; slot < SLOTS; slot++) {
            wheel.moment(slot, slot, slot);
        }
        wheel.span(0, 1, 15, 40);
        wheel.span(1, 1000000, 999999, 1000000);
        wheel.span(2, -1000000, 7, -1000000);
        wheel.span(3, 0, -1, -5);
        wheel.month(0, 2000, 2);
        wheel.month(1, -9999, 1);
        wheel.month(2, 9999, 12);
        wheel.month(3, 2023, 2);
        wheel.length(0, 1000000000000L, 0);
        wheel.length(1, -1000000000000L, 0);
        wheel.length(2, -1, 1);
        wheel.length(3, 93784, 500000001);
        return wheel;
    }

    /** All that can be read without a change. */
    static long[] picture(Yearwheel wheel) {
        long[] seen = new long[50];
        int count = 0;
        for (int slot = 0; slot < DATE_SLOTS; slot++) {
            seen[count++] = wheel.day(slot);
        }
        for (int slot = 0; slot < SLOTS; slot++) {
            seen[count++] = wheel.spanPart(slot, 'y');
            seen[count++] = wheel.spanPart(slot, 'm');
            seen[count++] = wheel.spanPart(slot, 'd');
            seen[count++] = wheel.monthPart(slot, 'y');
            seen[count++] = wheel.monthPart(slot, 'm');
            seen[count++] = wheel.timePart(slot, 'h') * 3600 + wheel.timePart(slot, 'm') * 60
                    + wheel.timePart(slot, 's');
            seen[count++] = wheel.timePart(slot, 'n');
            seen[count++] = wheel.lengthPart(slot, 's');
            seen[count++] = wheel.lengthPart(slot, 'n');
        }
        seen[count++] = wheel.checksum();
        return seen;
    }

    static void end(String test) {
        System.out.println(test + ": " + done + " looked at, " + wrong + " wrong");
        if (wrong != 0 || done == 0) {
            System.exit(1);
        }
    }
}
