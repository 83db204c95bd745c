/** The sentences of the promises 33 to 38 that name an edge. */
final class LengthEdges {
    private static final long MOST = 1000000000000L;
    private static final long MOST_BILLIONTHS = 1000000000000000L;
    private static final long SECOND = 1000000000L;

    static void all() {
        length();
        lengthOut();
        lengthPart();
        addLength();
        timesLength();
        timesOut();
        lengthOfTimes();
        orderLengths();
    }

    private static Yearwheel of(long seconds, long billionths) {
        Yearwheel wheel = new Yearwheel();
        wheel.length(0, seconds, billionths);
        return wheel;
    }

    private static void length() {
        Yearwheel wheel = new Yearwheel();
        Sentence seconds = Sentence.of(33, "-10 to the power of 12 to 10 to the power of 12");
        seconds.length(MOST, 0, wheel.length(0, MOST, 0), wheel, 0);
        seconds.length(-MOST, 0, wheel.length(0, -MOST, 0), wheel, 0);
        seconds.refusedNumbers(Check.ARGUMENT, (w, n) -> w.length(0, n, 0), MOST + 1, -MOST - 1, Long.MIN_VALUE,
                Long.MAX_VALUE);
        Sentence billionths = Sentence.of(33, "how many more, -10 to the power of 15 to 10 to the power of 15");
        billionths.length(1000000, 0, wheel.length(0, 0, MOST_BILLIONTHS), wheel, 0);
        billionths.length(-1000000, 0, wheel.length(0, 0, -MOST_BILLIONTHS), wheel, 0);
        billionths.length(999999, 999999999, wheel.length(0, 0, MOST_BILLIONTHS - 1), wheel, 0);
        billionths.length(-1000000, 1, wheel.length(0, 0, 1 - MOST_BILLIONTHS), wheel, 0);
        billionths.refusedNumbers(Check.ARGUMENT, (w, n) -> w.length(0, 0, n), MOST_BILLIONTHS + 1,
                -MOST_BILLIONTHS - 1, Long.MIN_VALUE, Long.MAX_VALUE);
        Sentence.of(33, Sentence.NO_SLOT).onlySlots(4, (w, slot) -> w.length(slot, 1, 1));
        Sentence none = Sentence.of(33, "Throws `IllegalArgumentException` if a number is out of range");
        // Also where the other number would lead home.
        none.refused("seconds", Check.ARGUMENT, w -> w.length(0, MOST + 1, -SECOND));
        none.refused("seconds below", Check.ARGUMENT, w -> w.length(0, -MOST - 1, SECOND));
        none.refused("billionths", Check.ARGUMENT, w -> w.length(0, -1000000, MOST_BILLIONTHS + 1));
        none.refused("billionths below", Check.ARGUMENT, w -> w.length(0, 1000000, -MOST_BILLIONTHS - 1));
    }

    private static void lengthOut() {
        Sentence told = Sentence.of(33, "Throws `UnsupportedOperationException` if it would be more than told");
        Yearwheel wheel = new Yearwheel();
        long[][] made = {{MOST, 0, MOST, 0}, {MOST, -1, MOST - 1, 999999999}, {MOST - 1, SECOND, MOST, 0},
                {MOST - 1, 999999999, MOST - 1, 999999999}, {MOST - 1000000, MOST_BILLIONTHS, MOST, 0},
                {-MOST, 0, -MOST, 0}, {-MOST, 1, -MOST, 1}, {1 - MOST, -SECOND, -MOST, 0},
                {1 - MOST, -999999999, -MOST, 1}, {1000000 - MOST, -MOST_BILLIONTHS, -MOST, 0},
                {MOST, -MOST_BILLIONTHS, MOST - 1000000, 0}, {-MOST, MOST_BILLIONTHS, 1000000 - MOST, 0}};
        for (long[] each : made) {
            told.length(each[2], each[3], wheel.length(3, each[0], each[1]), wheel, 3);
        }
        long[][] out = {{MOST, 1}, {MOST, SECOND}, {MOST, MOST_BILLIONTHS}, {MOST - 1, SECOND + 1},
                {MOST - 999999, MOST_BILLIONTHS}, {MOST - 1000000 + 1, MOST_BILLIONTHS - 1}, {-MOST, -1},
                {-MOST, -SECOND}, {-MOST, -MOST_BILLIONTHS}, {1 - MOST, -SECOND - 1},
                {999999 - MOST, -MOST_BILLIONTHS}};
        for (long[] each : out) {
            told.refused(each[0] + " and " + each[1], Check.UNSUPPORTED, w -> w.length(3, each[0], each[1]));
        }
    }

    private static void lengthPart() {
        Sentence told = Sentence.of(34, "'s' its seconds, 'n' its billionths");
        told.length(MOST, 0, MOST, of(MOST, 0), 0);
        told.length(-MOST, 0, -MOST, of(-MOST, 0), 0);
        told.length(-MOST, 1, -MOST, of(-MOST, 1), 0);
        told.length(-1, 999999999, -1, of(0, -1), 0);
        told.length(0, 999999999, 0, of(0, 999999999), 0);
        Sentence.of(34, Sentence.NO_SLOT).onlySlots(4, (w, slot) -> w.lengthPart(slot, 's'));
        Sentence.of(34, "Throws `IllegalArgumentException` if there is no such thing")
                .onlySigns("sn", (w, sign) -> w.lengthPart(0, sign));
    }

    private static void addLength() {
        Sentence.of(35, Sentence.NO_SLOT_FOR_ANY).onlySlots(4, (w, slot) -> w.addLength(slot, 2, false, 0))
                .onlySlots(4, (w, slot) -> w.addLength(2, slot, true, 0))
                .onlySlots(4, (w, slot) -> w.addLength(2, 2, false, slot));
        Sentence told = Sentence.of(35, "Throws `UnsupportedOperationException` if it would be more than told");
        Yearwheel wheel = of(MOST - 1, 999999999);
        wheel.length(1, 0, 1);
        wheel.length(2, 0, -1);
        told.length(MOST, 0, wheel.addLength(0, 1, false, 3), wheel, 3);
        told.length(MOST, 0, wheel.addLength(0, 2, true, 3), wheel, 3);
        told.refusedOn("a billionth more", Check.UNSUPPORTED, wheel, w -> w.addLength(3, 1, false, 0));
        told.refusedOn("less a billionth below 0", Check.UNSUPPORTED, wheel, w -> w.addLength(3, 2, true, 0));
        told.refusedOn("twice the most", Check.UNSUPPORTED, wheel, w -> w.addLength(3, 3, false, 0));
        told.length(0, 0, wheel.addLength(3, 3, true, 0), wheel, 0);
        wheel.length(0, 1 - MOST, -999999999);
        told.length(-MOST, 0, wheel.addLength(0, 2, false, 3), wheel, 3);
        told.length(-MOST, 0, wheel.addLength(0, 1, true, 3), wheel, 3);
        told.length(-MOST, 1, wheel.addLength(3, 1, false, 0), wheel, 0);
        told.refusedOn("a billionth less", Check.UNSUPPORTED, wheel, w -> w.addLength(3, 1, true, 0));
        told.refusedOn("a billionth below 0 more", Check.UNSUPPORTED, wheel, w -> w.addLength(3, 2, false, 0));
        told.refusedOn("twice the least", Check.UNSUPPORTED, wheel, w -> w.addLength(3, 3, false, 0));
        wheel.length(1, MOST, 0);
        told.refusedOn("from end to end", Check.UNSUPPORTED, wheel, w -> w.addLength(1, 3, true, 0));
        told.length(0, 0, wheel.addLength(1, 3, false, 0), wheel, 0);
    }

    private static void timesLength() {
        Sentence number = Sentence.of(36, "by how many, -1000 to 1000");
        Yearwheel wheel = of(-3, 1);
        number.length(-3000, 1000, wheel.timesLength(0, 1000, 1), wheel, 1);
        number.length(2999, 999999000, wheel.timesLength(0, -1000, 1), wheel, 1);
        number.length(0, 0, wheel.timesLength(0, 0, 1), wheel, 1);
        number.refusedNumbers(Check.ARGUMENT, (w, n) -> w.timesLength(2, (int) n, 0), 1001, -1001, Integer.MIN_VALUE,
                Integer.MAX_VALUE);
        Sentence.of(36, Sentence.NO_SLOT_FOR_ANY).onlySlots(4, (w, slot) -> w.timesLength(slot, 1, 0))
                .onlySlots(4, (w, slot) -> w.timesLength(0, 1, slot));
        Sentence none = Sentence.of(36, "Throws `IllegalArgumentException` if the number is out of range");
        Yearwheel empty = new Yearwheel();
        none.refusedOn("though it would come to 0", Check.ARGUMENT, empty, w -> w.timesLength(0, 1001, 1));
        none.refusedOn("though it would come to 0", Check.ARGUMENT, empty, w -> w.timesLength(0, -1001, 1));
    }

    private static void timesOut() {
        Sentence told = Sentence.of(36, "Throws `UnsupportedOperationException` if it would be more than told");
        Yearwheel wheel = of(1000000000, 0);
        told.length(MOST, 0, wheel.timesLength(0, 1000, 1), wheel, 1);
        told.length(-MOST, 0, wheel.timesLength(0, -1000, 1), wheel, 1);
        told.length(MOST, 0, wheel.timesLength(1, -1, 1), wheel, 1);
        told.length(MOST, 0, wheel.timesLength(1, 1, 1), wheel, 1);
        told.refusedOn("twice the most", Check.UNSUPPORTED, wheel, w -> w.timesLength(1, 2, 0));
        told.refusedOn("twice the most back", Check.UNSUPPORTED, wheel, w -> w.timesLength(1, -2, 0));
        told.refusedOn("the most by the most", Check.UNSUPPORTED, wheel, w -> w.timesLength(1, 1000, 0));
        told.refusedOn("the most by the least", Check.UNSUPPORTED, wheel, w -> w.timesLength(1, -1000, 0));
        wheel.length(0, 1000000000, 1);
        told.length(999000000000L, 999, wheel.timesLength(0, 999, 1), wheel, 1);
        told.refusedOn("a thousand billionths more", Check.UNSUPPORTED, wheel, w -> w.timesLength(0, 1000, 1));
        told.refusedOn("a thousand billionths less", Check.UNSUPPORTED, wheel, w -> w.timesLength(0, -1000, 1));
        wheel.length(0, 1000000000, -1);
        told.length(MOST - 1, 999999000, wheel.timesLength(0, 1000, 1), wheel, 1);
        told.length(-MOST, 1000, wheel.timesLength(0, -1000, 1), wheel, 1);
        wheel.length(0, -1000000000, 1);
        told.length(-MOST, 1000, wheel.timesLength(0, 1000, 1), wheel, 1);
        wheel.length(0, -1000000000, -1);
        told.refusedOn("a thousand billionths below", Check.UNSUPPORTED, wheel, w -> w.timesLength(0, 1000, 1));
    }

    private static void lengthOfTimes() {
        Sentence.of(37, Sentence.NO_SLOT_FOR_ANY).onlySlots(4, (w, slot) -> w.lengthOfTimes(slot, 0, 0))
                .onlySlots(4, (w, slot) -> w.lengthOfTimes(0, slot, 0))
                .onlySlots(4, (w, slot) -> w.lengthOfTimes(0, 0, slot));
    }

    private static void orderLengths() {
        Sentence told = Sentence.of(38, "Returns -1 if the first one is less, 0 if both are the same, 1 otherwise.");
        Yearwheel wheel = Check.stirred();
        told.same("the least and the most", -1, wheel.orderLengths(1, 0));
        told.same("the most and the least", 1, wheel.orderLengths(0, 1));
        wheel.length(2, -MOST, 1);
        told.same("a billionth less", -1, wheel.orderLengths(1, 2));
        told.same("a billionth more", 1, wheel.orderLengths(2, 1));
        wheel.length(2, 0, -1);
        wheel.length(3, 0, 0);
        told.same("a billionth below 0", -1, wheel.orderLengths(2, 3));
        told.same("a billionth above that", 1, wheel.orderLengths(3, 2));
        wheel.length(2, 1, -SECOND);
        told.same("the same in two slots", 0, wheel.orderLengths(2, 3));
        told.same("one slot", 0, wheel.orderLengths(0, 0));
        Sentence.of(38, Sentence.NO_SLOT_FOR_ANY).onlySlots(4, (w, slot) -> w.orderLengths(slot, 0))
                .onlySlots(4, (w, slot) -> w.orderLengths(0, slot));
    }
}
