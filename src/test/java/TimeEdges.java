/** The sentences of the promises 26 to 32 that name an edge. */
final class TimeEdges {
    private static final int LEAST = Integer.MIN_VALUE;
    private static final int MOST = Integer.MAX_VALUE;
    private static final long DAY = 86400000000000L;
    private static final long MOST_MOVED = 1000000000000000L;

    static void all() {
        time();
        ofBillionths();
        timePart();
        moveTime();
        moveRound();
        cutTime();
        goTime();
        orderTimes();
    }

    private static Yearwheel at(long billionths) {
        Yearwheel wheel = new Yearwheel();
        wheel.ofBillionths(0, billionths);
        return wheel;
    }

    private static void time() {
        Yearwheel wheel = new Yearwheel();
        Sentence hour = Sentence.of(26, "0 to 23");
        hour.time(0, 0, 0, 0, wheel.time(0, 0, 0, 0, 0), wheel, 0);
        hour.time(23, 0, 0, 0, wheel.time(0, 23, 0, 0, 0), wheel, 0);
        hour.refusedNumbers(Check.ARGUMENT, (w, n) -> w.time(0, (int) n, 0, 0, 0), 24, -1, LEAST, MOST);
        Sentence minute = Sentence.of(26, "0 to 59");
        minute.time(0, 0, 0, 1, wheel.time(0, 0, 0, 0, 1), wheel, 0);
        minute.time(0, 59, 0, 0, wheel.time(0, 0, 59, 0, 0), wheel, 0);
        minute.refusedNumbers(Check.ARGUMENT, (w, n) -> w.time(0, 0, (int) n, 0, 0), 60, -1, LEAST, MOST);
        Sentence second = Sentence.of(26, "0 to 59");
        second.time(0, 1, 0, 0, wheel.time(0, 0, 1, 0, 0), wheel, 0);
        second.time(0, 0, 59, 0, wheel.time(0, 0, 0, 59, 0), wheel, 0);
        second.refusedNumbers(Check.ARGUMENT, (w, n) -> w.time(0, 0, 0, (int) n, 0), 60, -1, LEAST, MOST);
        Sentence billionths = Sentence.of(26, "0 to 999999999");
        billionths.time(0, 0, 1, 0, wheel.time(0, 0, 0, 1, 0), wheel, 0);
        billionths.time(0, 0, 0, 999999999, wheel.time(0, 0, 0, 0, 999999999), wheel, 0);
        billionths.refusedNumbers(Check.ARGUMENT, (w, n) -> w.time(0, 0, 0, 0, (int) n), 1000000000, -1, LEAST, MOST);
        Sentence.of(26, Sentence.NO_SLOT).onlySlots(4, (w, slot) -> w.time(slot, 1, 2, 3, 4));
        Sentence none = Sentence.of(26, "Throws `IllegalArgumentException` if a number is out of range");
        none.time(23, 59, 59, 999999999, wheel.time(0, 23, 59, 59, 999999999), wheel, 0);
        none.refused("24:00", Check.ARGUMENT, w -> w.time(0, 24, 0, 0, 0));
        none.refused("23:60", Check.ARGUMENT, w -> w.time(0, 23, 60, 0, 0));
        none.refused("23:59:60", Check.ARGUMENT, w -> w.time(0, 23, 59, 60, 0));
        none.refused("a second in billionths", Check.ARGUMENT, w -> w.time(0, 23, 59, 59, 1000000000));
        // None makes up for another one.
        none.refused("an hour less", Check.ARGUMENT, w -> w.time(0, 1, -1, 0, 0));
        none.refused("a minute less", Check.ARGUMENT, w -> w.time(0, 1, 1, -1, 0));
        none.refused("a second less", Check.ARGUMENT, w -> w.time(0, 1, 1, 1, -1));
    }

    private static void ofBillionths() {
        Sentence number = Sentence.of(27, "0 to 86399999999999");
        Yearwheel wheel = new Yearwheel();
        number.same("the last", 23, wheel.ofBillionths(3, DAY - 1));
        number.time(23, 59, 59, 999999999, DAY - 1, wheel, 3);
        number.same("the first", 0, wheel.ofBillionths(3, 0));
        number.time(0, 0, 0, 0, 0, wheel, 3);
        number.same("the last of an hour", 0, wheel.ofBillionths(3, 3599999999999L));
        number.same("the first of an hour", 1, wheel.ofBillionths(3, 3600000000000L));
        Sentence.of(27, Sentence.NO_SLOT).onlySlots(4, (w, slot) -> w.ofBillionths(slot, 1));
        Sentence.of(27, "Throws `IllegalArgumentException` if it is out of range").refusedNumbers(Check.ARGUMENT,
                (w, n) -> w.ofBillionths(0, n), -1, DAY, DAY + 1, Long.MIN_VALUE, Long.MAX_VALUE, 1L << 47, 1L << 63);
    }

    private static void timePart() {
        Sentence told = Sentence.of(28, "'h' its hour, 'm' its minute, 's' its second, 'n' its billionths");
        told.time(0, 0, 0, 0, 0, at(0), 0);
        told.time(23, 59, 59, 999999999, DAY - 1, at(DAY - 1), 0);
        told.time(0, 0, 0, 999999999, 999999999, at(999999999), 0);
        told.time(0, 0, 1, 0, 1000000000, at(1000000000), 0);
        told.time(0, 0, 59, 999999999, 59999999999L, at(59999999999L), 0);
        told.time(0, 1, 0, 0, 60000000000L, at(60000000000L), 0);
        told.time(0, 59, 59, 999999999, 3599999999999L, at(3599999999999L), 0);
        told.time(1, 0, 0, 0, 3600000000000L, at(3600000000000L), 0);
        Sentence.of(28, Sentence.NO_SLOT).onlySlots(4, (w, slot) -> w.timePart(slot, 'h'));
        Sentence.of(28, "Throws `IllegalArgumentException` if there is no such thing")
                .onlySigns("hmsn", (w, sign) -> w.timePart(0, sign));
    }

    private static void moveTime() {
        Sentence units = Sentence.of(29, "'h', 'm', 's' or 'n'");
        Yearwheel wheel = new Yearwheel();
        units.time(1, 0, 0, 0, wheel.moveTime(0, 'h', 1, 1), wheel, 1);
        units.time(0, 1, 0, 0, wheel.moveTime(0, 'm', 1, 1), wheel, 1);
        units.time(0, 0, 1, 0, wheel.moveTime(0, 's', 1, 1), wheel, 1);
        units.time(0, 0, 0, 1, wheel.moveTime(0, 'n', 1, 1), wheel, 1);
        Sentence amount = Sentence.of(29, "by how many, -10 to the power of 15 to 10 to the power of 15");
        amount.time(16, 0, 0, 0, wheel.moveTime(0, 'h', MOST_MOVED, 1), wheel, 1);
        amount.time(8, 0, 0, 0, wheel.moveTime(0, 'h', -MOST_MOVED, 1), wheel, 1);
        amount.time(10, 40, 0, 0, wheel.moveTime(0, 'm', MOST_MOVED, 1), wheel, 1);
        amount.time(13, 20, 0, 0, wheel.moveTime(0, 'm', -MOST_MOVED, 1), wheel, 1);
        amount.time(1, 46, 40, 0, wheel.moveTime(0, 's', MOST_MOVED, 1), wheel, 1);
        amount.time(22, 13, 20, 0, wheel.moveTime(0, 's', -MOST_MOVED, 1), wheel, 1);
        amount.time(13, 46, 40, 0, wheel.moveTime(0, 'n', MOST_MOVED, 1), wheel, 1);
        amount.time(10, 13, 20, 0, wheel.moveTime(0, 'n', -MOST_MOVED, 1), wheel, 1);
        Sentence none = Sentence.of(29, "Throws `IllegalArgumentException` if there is no such unit, or the number is "
                + "out of range");
        none.onlySigns("hmsn", (w, sign) -> w.moveTime(0, sign, 1, 0));
        for (char unit : "hmsn".toCharArray()) {
            amount.takenNumbers((w, n) -> w.moveTime(0, unit, n, 0), MOST_MOVED, -MOST_MOVED, 0);
            none.refusedNumbers(Check.ARGUMENT, (w, n) -> w.moveTime(0, unit, n, 0), MOST_MOVED + 1, -MOST_MOVED - 1,
                    Long.MIN_VALUE, Long.MAX_VALUE);
        }
        Sentence.of(29, Sentence.NO_SLOT_FOR_ANY).onlySlots(4, (w, slot) -> w.moveTime(slot, 'h', 1, 0))
                .onlySlots(4, (w, slot) -> w.moveTime(0, 'h', 1, slot));
    }

    private static void moveRound() {
        Sentence told = Sentence.of(29, "Lets a slot become a time that is moved round the day.");
        Yearwheel last = at(DAY - 1);
        told.time(0, 59, 59, 999999999, last.moveTime(0, 'h', 1, 1), last, 1);
        told.time(0, 0, 59, 999999999, last.moveTime(0, 'm', 1, 1), last, 1);
        told.time(0, 0, 0, 999999999, last.moveTime(0, 's', 1, 1), last, 1);
        told.time(0, 0, 0, 0, last.moveTime(0, 'n', 1, 1), last, 1);
        Yearwheel first = at(0);
        told.time(23, 0, 0, 0, first.moveTime(0, 'h', -1, 1), first, 1);
        told.time(23, 59, 0, 0, first.moveTime(0, 'm', -1, 1), first, 1);
        told.time(23, 59, 59, 0, first.moveTime(0, 's', -1, 1), first, 1);
        told.time(23, 59, 59, 999999999, first.moveTime(0, 'n', -1, 1), first, 1);
        told.time(23, 59, 59, 999999999, last.moveTime(0, 'h', 24, 1), last, 1);
        told.time(23, 59, 59, 999999999, last.moveTime(0, 'm', -1440, 1), last, 1);
        told.time(23, 59, 59, 999999999, last.moveTime(0, 's', 86400, 1), last, 1);
        told.time(23, 59, 59, 999999999, last.moveTime(0, 'n', -DAY, 1), last, 1);
        told.time(23, 59, 59, 999999998, last.moveTime(0, 'n', DAY - 1, 1), last, 1);
    }

    private static void cutTime() {
        Sentence units = Sentence.of(30, "'h', 'm', 's' or 'd'");
        Yearwheel last = at(DAY - 1);
        units.time(23, 0, 0, 0, last.cutTime(0, 'h', 1), last, 1);
        units.time(23, 59, 0, 0, last.cutTime(0, 'm', 1), last, 1);
        units.time(23, 59, 59, 0, last.cutTime(0, 's', 1), last, 1);
        units.time(0, 0, 0, 0, last.cutTime(0, 'd', 1), last, 1);
        for (long time : new long[] {0, 3600000000000L}) {
            Yearwheel whole = at(time);
            units.same("a whole hour stays by h", time, whole.cutTime(0, 'h', 1));
            units.same("a whole hour stays by m", time, whole.cutTime(0, 'm', 1));
            units.same("a whole hour stays by s", time, whole.cutTime(0, 's', 1));
        }
        Sentence.of(30, Sentence.NO_SLOT_FOR_ANY).onlySlots(4, (w, slot) -> w.cutTime(slot, 'h', 0))
                .onlySlots(4, (w, slot) -> w.cutTime(0, 'h', slot));
        Sentence.of(30, "Throws `IllegalArgumentException` if there is no such unit")
                .onlySigns("hmsd", (w, sign) -> w.cutTime(0, sign, 0));
    }

    private static void goTime() {
        Sentence.of(31, Sentence.NO_SLOT_FOR_ANY).onlySlots(4, (w, slot) -> w.goTime(slot, 0, false, 0))
                .onlySlots(4, (w, slot) -> w.goTime(0, slot, true, 0))
                .onlySlots(4, (w, slot) -> w.goTime(0, 0, false, slot));
    }

    private static void orderTimes() {
        Sentence told = Sentence.of(32, "Returns -1, 0 or 1, as order() tells.");
        Yearwheel wheel = Check.stirred();
        told.same("the first and the last of all", -1, wheel.orderTimes(1, 2));
        told.same("the last and the first of all", 1, wheel.orderTimes(2, 1));
        wheel.ofBillionths(0, DAY - 2);
        told.same("a billionth ahead", -1, wheel.orderTimes(0, 2));
        told.same("a billionth behind", 1, wheel.orderTimes(2, 0));
        wheel.ofBillionths(0, DAY - 1);
        told.same("the same in two slots", 0, wheel.orderTimes(0, 2));
        told.same("one slot", 0, wheel.orderTimes(3, 3));
        Sentence.of(32, Sentence.NO_SLOT_FOR_ANY).onlySlots(4, (w, slot) -> w.orderTimes(slot, 0))
                .onlySlots(4, (w, slot) -> w.orderTimes(0, slot));
    }
}
