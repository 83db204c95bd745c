/** The sentences of the promises 21 to 25 that name an edge. */
final class MonthEdges {
    private static final int LEAST = Integer.MIN_VALUE;
    private static final int MOST = Integer.MAX_VALUE;

    static void all() {
        month();
        moveMonth();
        moveOut();
        monthPart();
        atDay();
        orderMonths();
    }

    private static Yearwheel at(int year, int month) {
        Yearwheel wheel = new Yearwheel();
        wheel.month(0, year, month);
        return wheel;
    }

    private static void month() {
        Sentence number = Sentence.of(21, "1 to 12");
        Yearwheel wheel = new Yearwheel();
        number.month(2023, 1, wheel.month(0, 2023, 1), wheel, 0);
        number.month(2023, 12, wheel.month(3, 2023, 12), wheel, 3);
        number.refusedNumbers(Check.ARGUMENT, (w, n) -> w.month(0, 2023, (int) n), 0, 13, -1, LEAST, MOST);
        Sentence.of(21, Sentence.NO_SLOT).onlySlots(4, (w, slot) -> w.month(slot, 2023, 1));
        Sentence none = Sentence.of(21, "Throws `IllegalArgumentException` if there is no such month, or year");
        none.month(-9999, 1, wheel.month(0, -9999, 1), wheel, 0);
        none.month(9999, 12, wheel.month(0, 9999, 12), wheel, 0);
        none.month(0, 2, wheel.month(0, 0, 2), wheel, 0);
        none.refusedNumbers(Check.ARGUMENT, (w, n) -> w.month(0, (int) n, 1), -10000, 10000, LEAST, MOST);
        none.refusedNumbers(Check.ARGUMENT, (w, n) -> w.month(0, (int) n, 12), -10000, 10000, LEAST, MOST);
        none.refusedNumbers(Check.ARGUMENT, (w, n) -> w.month(0, -9999, (int) n), 0, 13);
        none.refusedNumbers(Check.ARGUMENT, (w, n) -> w.month(0, 9999, (int) n), 0, 13);
    }

    private static void moveMonth() {
        Sentence units = Sentence.of(22, "'m' or 'y'");
        Yearwheel wheel = at(2023, 12);
        units.month(2024, 1, wheel.moveMonth(0, 'm', 1, 1), wheel, 1);
        units.month(2022, 12, wheel.moveMonth(0, 'm', -12, 1), wheel, 1);
        units.month(2022, 11, wheel.moveMonth(0, 'm', -13, 1), wheel, 1);
        units.month(2024, 12, wheel.moveMonth(0, 'y', 1, 1), wheel, 1);
        units.month(-1, 12, wheel.moveMonth(0, 'y', -2024, 1), wheel, 1);
        Sentence amount = Sentence.of(22, "by how many, -1000000 to 1000000");
        for (char unit : "my".toCharArray()) {
            amount.refusedNumbers(Check.ARGUMENT, (w, n) -> w.moveMonth(0, unit, (int) n, 0), 1000001, -1000001, LEAST,
                    MOST);
            // In range, but all that there is is less.
            amount.refusedNumbers(Check.UNSUPPORTED, (w, n) -> w.moveMonth(0, unit, (int) n, 0), 1000000, -1000000);
        }
        Sentence.of(22, Sentence.NO_SLOT_FOR_ANY).onlySlots(4, (w, slot) -> w.moveMonth(slot, 'm', 1, 0))
                .onlySlots(4, (w, slot) -> w.moveMonth(0, 'm', 1, slot));
        Sentence none = Sentence.of(22, "Throws `IllegalArgumentException` if there is no such unit, or the number is "
                + "out of range");
        none.onlySigns("my", (w, sign) -> w.moveMonth(0, sign, 1, 0));
        none.refusedNumbers(Check.ARGUMENT, (w, n) -> w.moveMonth(0, 'm', (int) n, 0), 1000001, -1000001);
    }

    private static void moveOut() {
        Sentence told = Sentence.of(22, Sentence.ANOTHER_YEAR);
        Yearwheel first = at(-9999, 1);
        Yearwheel last = at(9999, 12);
        told.month(9999, 12, first.moveMonth(0, 'm', 239987, 1), first, 1);
        told.month(9999, 1, first.moveMonth(0, 'y', 19998, 1), first, 1);
        told.month(-9999, 1, last.moveMonth(0, 'm', -239987, 1), last, 1);
        told.month(-9999, 12, last.moveMonth(0, 'y', -19998, 1), last, 1);
        told.refusedOn("a month too many", Check.UNSUPPORTED, first, w -> w.moveMonth(0, 'm', 239988, 1));
        told.refusedOn("a year too many", Check.UNSUPPORTED, first, w -> w.moveMonth(0, 'y', 19999, 1));
        told.refusedOn("a month ahead", Check.UNSUPPORTED, first, w -> w.moveMonth(0, 'm', -1, 1));
        told.refusedOn("a year ahead", Check.UNSUPPORTED, first, w -> w.moveMonth(0, 'y', -1, 1));
        told.refusedOn("a month behind", Check.UNSUPPORTED, last, w -> w.moveMonth(0, 'm', 1, 1));
        told.refusedOn("a year behind", Check.UNSUPPORTED, last, w -> w.moveMonth(0, 'y', 1, 1));
        told.refusedOn("a month too many back", Check.UNSUPPORTED, last, w -> w.moveMonth(0, 'm', -239988, 1));
        told.refusedOn("a year too many back", Check.UNSUPPORTED, last, w -> w.moveMonth(0, 'y', -19999, 1));
        told.month(9999, 12, last.moveMonth(0, 'm', 0, 1), last, 1);
        told.month(-9999, 1, first.moveMonth(0, 'y', 0, 1), first, 1);
    }

    private static void monthPart() {
        Sentence told = Sentence.of(23, "'y' its year, 'm' its number, 'l' how many days it has, 'L' how many its year "
                + "has");
        int[][] months = {{-9999, 1, 31, 365}, {9999, 12, 31, 365}, {2024, 2, 29, 366}, {2023, 2, 28, 365},
                {1900, 2, 28, 365}, {2000, 2, 29, 366}, {0, 2, 29, 366}, {-1, 12, 31, 365}, {-4, 1, 31, 366},
                {2024, 4, 30, 366}};
        for (int[] each : months) {
            for (int what = 0; what < 4; what++) {
                told.same(each[0] + "-" + each[1] + " " + "ymlL".charAt(what), each[what],
                        at(each[0], each[1]).monthPart(0, "ymlL".charAt(what)));
            }
        }
        Sentence.of(23, Sentence.NO_SLOT).onlySlots(4, (w, slot) -> w.monthPart(slot, 'y'));
        Sentence.of(23, "Throws `IllegalArgumentException` if there is no such thing")
                .onlySigns("ymlL", (w, sign) -> w.monthPart(0, sign));
    }

    private static void atDay() {
        Sentence day = Sentence.of(24, "the day of the month, or 0 for the last one");
        Sentence none = Sentence.of(24, "Throws `IllegalArgumentException` if there is no such day");
        int[][] months = {{2023, 2, 28}, {2024, 2, 29}, {2024, 4, 30}, {2024, 12, 31}, {1900, 2, 28}, {0, 2, 29},
                {-9999, 1, 31}, {9999, 12, 31}};
        for (int[] each : months) {
            Yearwheel wheel = at(each[0], each[1]);
            day.date(each[0], each[1], each[2], wheel.atDay(0, 0, 5), wheel, 5);
            day.date(each[0], each[1], 1, wheel.atDay(0, 1, 4), wheel, 4);
            day.date(each[0], each[1], each[2], wheel.atDay(0, each[2], 3), wheel, 3);
            none.refusedOn("a day too many", Check.ARGUMENT, wheel, w -> w.atDay(0, each[2] + 1, 0));
            none.refusedOn("below 0", Check.ARGUMENT, wheel, w -> w.atDay(0, -1, 0));
            none.refusedOn("far below", Check.ARGUMENT, wheel, w -> w.atDay(0, LEAST, 0));
            none.refusedOn("far too many", Check.ARGUMENT, wheel, w -> w.atDay(0, MOST, 0));
        }
        Sentence.of(24, Sentence.NO_SLOT_FOR_ANY).onlySlots(4, (w, slot) -> w.atDay(slot, 1, 0))
                .onlySlots(6, (w, slot) -> w.atDay(0, 1, slot));
    }

    private static void orderMonths() {
        Sentence told = Sentence.of(25, "Returns -1, 0 or 1, as order() tells.");
        Yearwheel wheel = Check.stirred();
        told.same("the first and the last of all", -1, wheel.orderMonths(1, 2));
        told.same("the last and the first of all", 1, wheel.orderMonths(2, 1));
        wheel.month(0, -1, 12);
        wheel.month(3, 0, 1);
        told.same("a month ahead", -1, wheel.orderMonths(0, 3));
        told.same("a month behind", 1, wheel.orderMonths(3, 0));
        wheel.month(0, 0, 1);
        told.same("the same in two slots", 0, wheel.orderMonths(0, 3));
        told.same("one slot", 0, wheel.orderMonths(2, 2));
        Sentence.of(25, Sentence.NO_SLOT_FOR_ANY).onlySlots(4, (w, slot) -> w.orderMonths(slot, 0))
                .onlySlots(4, (w, slot) -> w.orderMonths(0, slot));
    }
}
