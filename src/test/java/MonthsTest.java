import java.time.YearMonth;

/** Promises 21 to 25. */
public final class MonthsTest {
    public static void main(String[] args) {
        month();
        moveMonth();
        moveRefused();
        monthPart();
        atDay();
        orderMonths();
        Check.end("MonthsTest");
    }

    private static Yearwheel at(int year, int month) {
        Yearwheel wheel = new Yearwheel();
        wheel.month(0, year, month);
        return wheel;
    }

    private static void holds(String what, YearMonth due, Yearwheel wheel, int slot) {
        Check.same(what + ", its year", due.getYear(), wheel.monthPart(slot, 'y'));
        Check.same(what + ", its number", due.getMonthValue(), wheel.monthPart(slot, 'm'));
        Check.same(what + ", its days", due.lengthOfMonth(), wheel.monthPart(slot, 'l'));
        Check.same(what + ", its year's days", due.lengthOfYear(), wheel.monthPart(slot, 'L'));
    }

    private static void month() {
        for (int year : new int[] {-9999, -100, -4, -1, 0, 1, 1900, 2000, 2023, 2024, 9999}) {
            for (int month = 1; month <= 12; month++) {
                Yearwheel wheel = new Yearwheel();
                YearMonth due = YearMonth.of(year, month);
                Check.same("21 " + due, due.lengthOfMonth(), wheel.month(2, year, month));
                holds("21 " + due, due, wheel, 2);
                holds("21 the others stay", YearMonth.of(1970, 1), wheel, 3);
            }
        }
        Check.onlySlots("21 month", 4, (w, slot) -> w.month(slot, 2020, 1));
        Check.refused("21 the slot is looked at first", Check.INDEX, w -> w.month(4, 10000, 13));
        Check.refusedNumbers("21 a month", Check.ARGUMENT, (w, n) -> w.month(0, 2020, (int) n), 0, 13, -1,
                Integer.MAX_VALUE, Integer.MIN_VALUE);
        Check.refusedNumbers("21 a year", Check.ARGUMENT, (w, n) -> w.month(0, (int) n, 1), 10000, -10000,
                Integer.MAX_VALUE, Integer.MIN_VALUE);
    }

    private static void moveMonth() {
        for (YearMonth from : new YearMonth[] {YearMonth.of(2023, 12), YearMonth.of(0, 1), YearMonth.of(-1, 6)}) {
            for (int amount = -50; amount <= 50; amount++) {
                Yearwheel wheel = at(from.getYear(), from.getMonthValue());
                Check.same("22 m", from.plusMonths(amount).lengthOfMonth(), wheel.moveMonth(0, 'm', amount, 1));
                holds("22 by months", from.plusMonths(amount), wheel, 1);
                Check.same("22 y", from.plusYears(amount).lengthOfMonth(), wheel.moveMonth(0, 'y', amount, 2));
                holds("22 by years", from.plusYears(amount), wheel, 2);
                holds("22 the slot itself stays", from, wheel, 0);
            }
        }
        Yearwheel wheel = at(-9999, 1);
        Check.same("22 to the last month of all", 31, wheel.moveMonth(0, 'm', 239987, 1));
        holds("22 to the last month of all", YearMonth.of(9999, 12), wheel, 1);
        Check.same("22 and home", 31, wheel.moveMonth(1, 'm', -239987, 1));
        holds("22 and home", YearMonth.of(-9999, 1), wheel, 1);
        Check.same("22 to the last year of all", 31, wheel.moveMonth(0, 'y', 19998, 0));
        holds("22 to the last year of all", YearMonth.of(9999, 1), wheel, 0);
    }

    private static void moveRefused() {
        Check.onlySlots("22 moveMonth", 4, (w, slot) -> w.moveMonth(slot, 'm', 0, 0));
        Check.onlySlots("22 moveMonth", 4, (w, slot) -> w.moveMonth(0, 'm', 0, slot));
        Check.refused("22 the slots are looked at first", Check.INDEX, w -> w.moveMonth(0, 'x', 1000001, 4));
        Check.refusedSigns("22 moveMonth", "my", (w, sign) -> w.moveMonth(0, sign, 1, 0));
        for (char unit : "my".toCharArray()) {
            Check.refusedNumbers("22 moveMonth", Check.ARGUMENT, (w, n) -> w.moveMonth(0, unit, (int) n, 0), 1000001,
                    -1000001, Integer.MAX_VALUE, Integer.MIN_VALUE);
            Check.refusedNumbers("22 behind the last", Check.UNSUPPORTED, (w, n) -> w.moveMonth(2, unit, (int) n, 0),
                    1, 1000000, -1000000);
            Check.refusedNumbers("22 ahead of the first", Check.UNSUPPORTED,
                    (w, n) -> w.moveMonth(1, unit, (int) n, 0), -1, 1000000, -1000000);
        }
        Check.refused("22 the number ahead of the outcome", Check.ARGUMENT, w -> w.moveMonth(2, 'm', 1000001, 0));
    }

    private static void monthPart() {
        for (int slot = 0; slot < 4; slot++) {
            Yearwheel wheel = new Yearwheel();
            wheel.month(slot, 2024, 2);
            for (int other = 0; other < 4; other++) {
                holds("23 monthPart", slot == other ? YearMonth.of(2024, 2) : YearMonth.of(1970, 1), wheel, other);
            }
        }
        Check.onlySlots("23 monthPart", 4, (w, slot) -> w.monthPart(slot, 'y'));
        Check.refused("23 the slot is looked at first", Check.INDEX, w -> w.monthPart(4, 'x'));
        Check.refusedSigns("23 monthPart", "ymlL", (w, sign) -> w.monthPart(0, sign));
    }

    private static void atDay() {
        for (int year : new int[] {-9999, 0, 1900, 2000, 2023, 9999}) {
            for (int month = 1; month <= 12; month++) {
                YearMonth of = YearMonth.of(year, month);
                Yearwheel wheel = at(year, month);
                Check.same("24 the last day", of.atEndOfMonth().toEpochDay(), wheel.atDay(0, 0, 5));
                Check.same("24 its slot", of.atEndOfMonth().toEpochDay(), wheel.day(5));
                for (int day = 1; day <= of.lengthOfMonth(); day++) {
                    Check.same("24 a day", of.atDay(day).toEpochDay(), wheel.atDay(0, day, 4));
                    Check.same("24 its slot", of.atDay(day).toEpochDay(), wheel.day(4));
                }
                Check.refusedOn("24 a day too many", Check.ARGUMENT, wheel,
                        w -> w.atDay(0, of.lengthOfMonth() + 1, 4));
            }
        }
        Check.onlySlots("24 atDay", 4, (w, slot) -> w.atDay(slot, 1, 0));
        Check.onlySlots("24 atDay", 6, (w, slot) -> w.atDay(0, 1, slot));
        Check.refused("24 the slots are looked at first", Check.INDEX, w -> w.atDay(0, 30, 6));
        Check.refusedNumbers("24 a day", Check.ARGUMENT, (w, n) -> w.atDay(3, (int) n, 0), -1, 29, 30, 31, 32,
                Integer.MAX_VALUE, Integer.MIN_VALUE);
    }

    private static void orderMonths() {
        Yearwheel wheel = Check.stirred();
        int[] due = {1, 0, 3, 2};
        for (int slot = 0; slot < 4; slot++) {
            for (int other = 0; other < 4; other++) {
                Check.same("25 orderMonths", Integer.compare(due[slot], due[other]), wheel.orderMonths(slot, other));
            }
        }
        wheel.month(1, 2000, 1);
        Check.same("25 in one year", -1, wheel.orderMonths(1, 0));
        wheel.month(1, 1999, 12);
        Check.same("25 the year counts first", -1, wheel.orderMonths(1, 0));
        Check.onlySlots("25 orderMonths", 4, (w, slot) -> w.orderMonths(slot, 0));
        Check.onlySlots("25 orderMonths", 4, (w, slot) -> w.orderMonths(0, slot));
    }
}
