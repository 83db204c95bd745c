/** The sentences of the promises 39 to 46 that name an edge. */
final class MomentEdges {
    private static final long DAY = 86400000000000L;
    private static final long HOUR = 3600000000000L;
    private static final long MOST_MOVED = 1000000000000000L;

    static void all() {
        moment();
        moveMoment();
        moveAmounts();
        moveOutByDates();
        moveOutByTimes();
        goMoment();
        lengthOfMoments();
        whole();
        orderMoments();
    }

    /** With the moment in the slot 0. */
    private static Yearwheel at(int year, int month, int day, long time) {
        Yearwheel wheel = new Yearwheel();
        put(wheel, 0, year, month, day, time);
        return wheel;
    }

    private static void put(Yearwheel wheel, int slot, int year, int month, int day, long time) {
        wheel.date(0, year, month, day);
        wheel.ofBillionths(0, time);
        wheel.moment(slot, 0, 0);
    }

    private static Yearwheel first() {
        return at(-9999, 1, 1, 0);
    }

    private static Yearwheel last() {
        return at(9999, 12, 31, DAY - 1);
    }

    private static void moment() {
        Sentence.of(39, Sentence.NO_SLOT_FOR_ANY).onlySlots(4, (w, slot) -> w.moment(slot, 0, 0))
                .onlySlots(6, (w, slot) -> w.moment(0, slot, 0)).onlySlots(4, (w, slot) -> w.moment(0, 0, slot));
        Sentence.of(40, Sentence.NO_SLOT_FOR_ANY).onlySlots(4, (w, slot) -> w.dateOf(slot, 0))
                .onlySlots(6, (w, slot) -> w.dateOf(0, slot));
        Sentence.of(41, Sentence.NO_SLOT_FOR_ANY).onlySlots(4, (w, slot) -> w.timeOf(slot, 0))
                .onlySlots(4, (w, slot) -> w.timeOf(0, slot));
    }

    private static void moveMoment() {
        Sentence units = Sentence.of(42, "'y', 'm', 'w' or 'd'; 'h', 'i', 's' or 'n'");
        Yearwheel wheel = at(2024, 2, 29, HOUR);
        units.moment(2025, 2, 28, HOUR, wheel.moveMoment(0, 'y', 1, 1), wheel, 1);
        units.moment(2024, 3, 29, HOUR, wheel.moveMoment(0, 'm', 1, 1), wheel, 1);
        units.moment(2024, 3, 7, HOUR, wheel.moveMoment(0, 'w', 1, 1), wheel, 1);
        units.moment(2024, 3, 1, HOUR, wheel.moveMoment(0, 'd', 1, 1), wheel, 1);
        units.moment(2024, 2, 29, 2 * HOUR, wheel.moveMoment(0, 'h', 1, 1), wheel, 1);
        units.moment(2024, 2, 29, HOUR + 60000000000L, wheel.moveMoment(0, 'i', 1, 1), wheel, 1);
        units.moment(2024, 2, 29, HOUR + 1000000000L, wheel.moveMoment(0, 's', 1, 1), wheel, 1);
        units.moment(2024, 2, 29, HOUR + 1, wheel.moveMoment(0, 'n', 1, 1), wheel, 1);
        Sentence.of(42, Sentence.NO_SLOT_FOR_ANY).onlySlots(4, (w, slot) -> w.moveMoment(slot, 'n', 0, 0))
                .onlySlots(4, (w, slot) -> w.moveMoment(0, 'd', 0, slot));
        Sentence none = Sentence.of(42, "Throws `IllegalArgumentException` if there is no such unit, or the number is "
                + "out of range");
        none.onlySigns("ymwdhisn", (w, sign) -> w.moveMoment(0, sign, 0, 0));
        for (char unit : "ymwd".toCharArray()) {
            none.refusedNumbers(Check.ARGUMENT, (w, n) -> w.moveMoment(0, unit, n, 0), 1000001, -1000001, MOST_MOVED,
                    -MOST_MOVED, 1L << 32, -(1L << 32), Long.MIN_VALUE, Long.MAX_VALUE);
        }
        for (char unit : "hisn".toCharArray()) {
            none.refusedNumbers(Check.ARGUMENT, (w, n) -> w.moveMoment(0, unit, n, 0), MOST_MOVED + 1, -MOST_MOVED - 1,
                    Long.MIN_VALUE, Long.MAX_VALUE);
        }
    }

    private static void moveAmounts() {
        Sentence told = Sentence.of(42, "by how many, -1000000 to 1000000; of the latter -10 to the power of 15 to 10 "
                + "to the power of 15");
        Yearwheel wheel = at(1970, 1, 1, 1);
        told.moment(4707, 11, 29, 1, wheel.moveMoment(0, 'd', 1000000, 1), wheel, 1);
        told.moment(-768, 2, 4, 1, wheel.moveMoment(0, 'd', -1000000, 1), wheel, 1);
        Yearwheel first = first();
        told.moment(9166, 5, 9, 0, first.moveMoment(0, 'w', 1000000, 1), first, 1);
        Yearwheel last = last();
        told.moment(-9166, 8, 25, DAY - 1, last.moveMoment(0, 'w', -1000000, 1), last, 1);
        // 10 to the power of 15 billionths are 11 days and 49600 seconds.
        told.moment(1970, 1, 12, 49600000000001L, wheel.moveMoment(0, 'n', MOST_MOVED, 1), wheel, 1);
        told.moment(1969, 12, 20, 36800000000001L, wheel.moveMoment(0, 'n', -MOST_MOVED, 1), wheel, 1);
        for (char unit : "his".toCharArray()) {
            told.holds("above a million by " + unit, wheel.moveMoment(0, unit, 1000001, 1) > 0);
            told.holds("below a million by " + unit, wheel.moveMoment(0, unit, -1000001, 1) < 0);
            // In range, but all that there is is less.
            told.refusedNumbers(Check.UNSUPPORTED, (w, n) -> w.moveMoment(0, unit, n, 0), MOST_MOVED, -MOST_MOVED);
        }
        for (char unit : "my".toCharArray()) {
            told.refusedNumbers(Check.UNSUPPORTED, (w, n) -> w.moveMoment(0, unit, n, 0), 1000000, -1000000);
        }
        for (char unit : "ymwd".toCharArray()) {
            told.refusedNumbers(Check.ARGUMENT, (w, n) -> w.moveMoment(0, unit, n, 0), 1000001, -1000001);
        }
        for (char unit : "hisn".toCharArray()) {
            told.refusedNumbers(Check.ARGUMENT, (w, n) -> w.moveMoment(0, unit, n, 0), MOST_MOVED + 1, -MOST_MOVED - 1);
        }
    }

    private static void moveOutByDates() {
        Sentence told = Sentence.of(42, Sentence.ANOTHER_YEAR);
        Yearwheel last = at(9999, 12, 30, DAY - 1);
        told.moment(9999, 12, 31, DAY - 1, last.moveMoment(0, 'd', 1, 1), last, 1);
        told.refusedOn("two days", Check.UNSUPPORTED, last, w -> w.moveMoment(0, 'd', 2, 1));
        told.refusedOn("a week", Check.UNSUPPORTED, last, w -> w.moveMoment(0, 'w', 1, 1));
        told.refusedOn("a month", Check.UNSUPPORTED, last, w -> w.moveMoment(0, 'm', 1, 1));
        told.refusedOn("a year", Check.UNSUPPORTED, last, w -> w.moveMoment(0, 'y', 1, 1));
        Yearwheel near = at(9999, 12, 24, 7);
        told.moment(9999, 12, 31, 7, near.moveMoment(0, 'w', 1, 1), near, 1);
        Yearwheel november = at(9999, 11, 30, 7);
        told.moment(9999, 12, 30, 7, november.moveMoment(0, 'm', 1, 1), november, 1);
        Yearwheel before = at(9998, 12, 31, 7);
        told.moment(9999, 12, 31, 7, before.moveMoment(0, 'y', 1, 1), before, 1);
        Yearwheel first = at(-9999, 1, 2, 0);
        told.moment(-9999, 1, 1, 0, first.moveMoment(0, 'd', -1, 1), first, 1);
        told.refusedOn("two days back", Check.UNSUPPORTED, first, w -> w.moveMoment(0, 'd', -2, 1));
        told.refusedOn("a week back", Check.UNSUPPORTED, first, w -> w.moveMoment(0, 'w', -1, 1));
        told.refusedOn("a month back", Check.UNSUPPORTED, first, w -> w.moveMoment(0, 'm', -1, 1));
        told.refusedOn("a year back", Check.UNSUPPORTED, first, w -> w.moveMoment(0, 'y', -1, 1));
    }

    private static void moveOutByTimes() {
        Sentence told = Sentence.of(42, Sentence.ANOTHER_YEAR);
        long[] units = {HOUR, 60000000000L, 1000000000L, 1};
        for (int each = 0; each < 4; each++) {
            char unit = "hisn".charAt(each);
            Yearwheel last = at(9999, 12, 31, DAY - 1 - units[each]);
            told.moment(9999, 12, 31, DAY - 1, last.moveMoment(0, unit, 1, 1), last, 1);
            told.refusedOn("one more " + unit, Check.UNSUPPORTED, last, w -> w.moveMoment(1, unit, 1, 2));
            told.refusedOn("two more " + unit, Check.UNSUPPORTED, last, w -> w.moveMoment(0, unit, 2, 2));
            Yearwheel close = at(9999, 12, 31, DAY - units[each]);
            told.refusedOn("just out by " + unit, Check.UNSUPPORTED, close, w -> w.moveMoment(0, unit, 1, 2));
            Yearwheel first = at(-9999, 1, 1, units[each]);
            told.moment(-9999, 1, 1, 0, first.moveMoment(0, unit, -1, 1), first, 1);
            told.refusedOn("one less " + unit, Check.UNSUPPORTED, first, w -> w.moveMoment(1, unit, -1, 2));
            Yearwheel near = at(-9999, 1, 1, units[each] - 1);
            told.refusedOn("just out back by " + unit, Check.UNSUPPORTED, near, w -> w.moveMoment(0, unit, -1, 2));
        }
        // From the first moment to the last second, and one more.
        Yearwheel first = first();
        told.moment(9999, 12, 31, 86399000000000L, first.moveMoment(0, 's', 631107417599L, 1), first, 1);
        told.refusedOn("a second too many", Check.UNSUPPORTED, first, w -> w.moveMoment(0, 's', 631107417600L, 1));
        told.refusedOn("a minute too many", Check.UNSUPPORTED, first, w -> w.moveMoment(0, 'i', 10518456960L, 1));
        told.refusedOn("an hour too many", Check.UNSUPPORTED, first, w -> w.moveMoment(0, 'h', 175307616L, 1));
        told.moment(9999, 12, 31, 23 * HOUR, first.moveMoment(0, 'h', 175307615L, 1), first, 1);
    }

    private static void goMoment() {
        Sentence.of(43, Sentence.NO_SLOT_FOR_ANY).onlySlots(4, (w, slot) -> w.goMoment(slot, 2, false, 0))
                .onlySlots(4, (w, slot) -> w.goMoment(0, slot, false, 0))
                .onlySlots(4, (w, slot) -> w.goMoment(0, 2, true, slot));
        Sentence told = Sentence.of(43, Sentence.ANOTHER_YEAR);
        Yearwheel last = last();
        Yearwheel first = first();
        for (Yearwheel each : new Yearwheel[] {first, last}) {
            each.length(0, 0, 1);
            each.length(1, 0, -1);
            each.length(2, 631107417599L, 999999999);
            each.length(3, 1000000000000L, 0);
        }
        told.moment(9999, 12, 31, DAY - 1, first.goMoment(0, 2, false, 1), first, 1);
        told.moment(-9999, 1, 1, 0, first.goMoment(1, 2, true, 1), first, 1);
        told.moment(-9999, 1, 1, 1, first.goMoment(0, 0, false, 1), first, 1);
        told.moment(9999, 12, 31, DAY - 2, last.goMoment(0, 0, true, 1), last, 1);
        told.refusedOn("a billionth behind", Check.UNSUPPORTED, last, w -> w.goMoment(0, 0, false, 2));
        told.refusedOn("a billionth below 0, back", Check.UNSUPPORTED, last, w -> w.goMoment(0, 1, true, 2));
        told.refusedOn("a billionth ahead", Check.UNSUPPORTED, first, w -> w.goMoment(0, 0, true, 2));
        told.refusedOn("a billionth below 0", Check.UNSUPPORTED, first, w -> w.goMoment(0, 1, false, 2));
        told.refusedOn("a billionth too far", Check.UNSUPPORTED, first, w -> w.goMoment(1, 2, false, 2));
        told.refusedOn("a billionth too far back", Check.UNSUPPORTED, last, w -> w.goMoment(1, 2, true, 2));
        told.refusedOn("the most", Check.UNSUPPORTED, first, w -> w.goMoment(0, 3, false, 2));
        told.refusedOn("the most back", Check.UNSUPPORTED, last, w -> w.goMoment(0, 3, true, 2));
    }

    private static void lengthOfMoments() {
        Sentence.of(44, Sentence.NO_SLOT_FOR_ANY).onlySlots(4, (w, slot) -> w.lengthOfMoments(slot, 0, 0))
                .onlySlots(4, (w, slot) -> w.lengthOfMoments(0, slot, 0))
                .onlySlots(4, (w, slot) -> w.lengthOfMoments(0, 0, slot));
    }

    private static void whole() {
        Sentence units = Sentence.of(45, "'d', 'h', 'i' or 's'");
        Yearwheel wheel = first();
        put(wheel, 3, 9999, 12, 31, DAY - 1);
        long[] due = {7304483, 175307615, 10518456959L, 631107417599L};
        Sentence below = Sentence.of(45, "Returns how many, below 0 if that one is ahead.");
        for (int each = 0; each < 4; each++) {
            char unit = "dhis".charAt(each);
            units.same("all by " + unit, due[each], wheel.whole(0, 3, unit));
            units.same("none by " + unit, 0, wheel.whole(3, 3, unit));
            below.same("all back by " + unit, -due[each], wheel.whole(3, 0, unit));
            wheel.moveMoment(3, 'n', -1, 1);
            below.same("less than one back by " + unit, 0, wheel.whole(3, 1, unit));
            wheel.moveMoment(3, unit, -1, 1);
            below.same("just one back by " + unit, -1, wheel.whole(3, 1, unit));
        }
        Sentence.of(45, Sentence.NO_SLOT_FOR_ANY).onlySlots(4, (w, slot) -> w.whole(slot, 0, 'd'))
                .onlySlots(4, (w, slot) -> w.whole(0, slot, 'd'));
        Sentence.of(45, "Throws `IllegalArgumentException` if there is no such unit")
                .onlySigns("dhis", (w, sign) -> w.whole(0, 1, sign));
    }

    private static void orderMoments() {
        Sentence told = Sentence.of(46, "Returns -1, 0 or 1, as order() tells.");
        Yearwheel wheel = Check.stirred();
        told.same("the first and the last of all", -1, wheel.orderMoments(1, 2));
        told.same("the last and the first of all", 1, wheel.orderMoments(2, 1));
        put(wheel, 0, 1969, 12, 31, DAY - 1);
        put(wheel, 3, 1970, 1, 1, 0);
        told.same("a billionth ahead, in another day", -1, wheel.orderMoments(0, 3));
        told.same("a billionth behind, in another day", 1, wheel.orderMoments(3, 0));
        put(wheel, 0, 1970, 1, 1, 1);
        told.same("a billionth behind in one day", 1, wheel.orderMoments(0, 3));
        told.same("a billionth ahead in one day", -1, wheel.orderMoments(3, 0));
        put(wheel, 0, 1970, 1, 1, 0);
        told.same("the same in two slots", 0, wheel.orderMoments(0, 3));
        told.same("one slot", 0, wheel.orderMoments(2, 2));
        Sentence.of(46, Sentence.NO_SLOT_FOR_ANY).onlySlots(4, (w, slot) -> w.orderMoments(slot, 0))
                .onlySlots(4, (w, slot) -> w.orderMoments(0, slot));
    }
}
