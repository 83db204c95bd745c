/** The sentences of the promises 14 to 20 that name an edge. */
final class SpanEdges {
    private static final int LEAST = Integer.MIN_VALUE;
    private static final int MOST = Integer.MAX_VALUE;
    private static final int MILLION = 1000000;

    static void all() {
        span();
        until();
        go();
        goOut();
        spanPart();
        addSpan();
        timesSpan();
        timesOut();
        plainSpan();
    }

    private static Yearwheel of(int years, int months, int days) {
        Yearwheel wheel = new Yearwheel();
        wheel.span(0, years, months, days);
        return wheel;
    }

    /** The number as the years, the months or the days, and 0 as the others. */
    private static Yearwheel ofPart(int part, int number) {
        return of(part == 0 ? number : 0, part == 1 ? number : 0, part == 2 ? number : 0);
    }

    private static void hasPart(Sentence told, int part, int due, Yearwheel wheel, int slot) {
        for (int each = 0; each < 3; each++) {
            told.same("its " + "ymd".charAt(each), each == part ? due : 0, wheel.spanPart(slot, "ymd".charAt(each)));
        }
    }

    private static void span() {
        Sentence told = Sentence.of(14, "Returns all its months, 12 for a year.");
        int[][] spans = {{0, 0, 0}, {1, 0, 0}, {0, 1, 0}, {0, 0, 1}, {1, -12, 0}, {-1, -1, 400}, {MILLION, MILLION, 0},
                {-MILLION, -MILLION, 0}, {MILLION, -MILLION, MILLION}};
        for (int[] each : spans) {
            Yearwheel wheel = new Yearwheel();
            told.span(each[0], each[1], each[2], wheel.span(3, each[0], each[1], each[2]), wheel, 3);
        }
        Sentence.of(14, Sentence.NO_SLOT).onlySlots(4, (w, slot) -> w.span(slot, 1, 1, 1));
        Sentence none = Sentence.of(14, "Throws `IllegalArgumentException` if a number is out of range");
        long[] ends = {MILLION, -MILLION, 0};
        long[] out = {MILLION + 1, -MILLION - 1, LEAST, MOST};
        none.takenNumbers((w, n) -> w.span(0, (int) n, 0, 0), ends);
        none.takenNumbers((w, n) -> w.span(0, 0, (int) n, 0), ends);
        none.takenNumbers((w, n) -> w.span(0, 0, 0, (int) n), ends);
        none.refusedNumbers(Check.ARGUMENT, (w, n) -> w.span(0, (int) n, 0, 0), out);
        none.refusedNumbers(Check.ARGUMENT, (w, n) -> w.span(0, 0, (int) n, 0), out);
        none.refusedNumbers(Check.ARGUMENT, (w, n) -> w.span(0, 0, 0, (int) n), out);
    }

    private static void until() {
        Sentence.of(15, Sentence.NO_SLOT_FOR_ANY).onlySlots(6, (w, slot) -> w.until(slot, 2, 0))
                .onlySlots(6, (w, slot) -> w.until(1, slot, 0)).onlySlots(4, (w, slot) -> w.until(1, 2, slot));
        Sentence told = Sentence.of(15, "Throws `UnsupportedOperationException` if the other one is ahead");
        Yearwheel wheel = Check.stirred();
        told.span(19998, 11, 30, wheel.until(1, 2, 0), wheel, 0);
        told.refused("all the way back", Check.UNSUPPORTED, w -> w.until(2, 1, 0));
        told.span(0, 0, 0, wheel.until(2, 2, 0), wheel, 0);
        wheel.ofDay(0, 0);
        wheel.ofDay(3, -1);
        wheel.ofDay(4, 0);
        told.span(0, 0, 1, wheel.until(3, 0, 0), wheel, 0);
        told.span(0, 0, 0, wheel.until(0, 4, 0), wheel, 0);
        told.refusedOn("a day ahead", Check.UNSUPPORTED, wheel, w -> w.until(0, 3, 0));
    }

    private static void go() {
        Sentence.of(16, Sentence.NO_SLOT_FOR_ANY).onlySlots(6, (w, slot) -> w.go(slot, 0, false, 0))
                .onlySlots(4, (w, slot) -> w.go(0, slot, false, 0)).onlySlots(6, (w, slot) -> w.go(0, 0, true, slot));
    }

    private static void goOut() {
        Sentence told = Sentence.of(16, Sentence.ANOTHER_YEAR);
        int[][] ways = {{0, 0, 1}, {0, 1, 0}, {1, 0, 0}, {0, 1, -30}, {1, -12, 1}, {MILLION, MILLION, MILLION},
                {MILLION, 0, -MILLION}};
        for (int[] way : ways) {
            Yearwheel wheel = Check.stirred();
            wheel.span(0, way[0], way[1], way[2]);
            wheel.span(1, -way[0], -way[1], -way[2]);
            told.refusedOn("behind the last", Check.UNSUPPORTED, wheel, w -> w.go(2, 0, false, 0));
            told.refusedOn("behind the last, back", Check.UNSUPPORTED, wheel, w -> w.go(2, 1, true, 0));
            told.refusedOn("ahead of the first", Check.UNSUPPORTED, wheel, w -> w.go(1, 0, true, 0));
            told.refusedOn("ahead of the first, by less than 0", Check.UNSUPPORTED, wheel, w -> w.go(1, 1, false, 0));
        }
        Yearwheel wheel = Check.stirred();
        wheel.span(0, 0, 1, -31);
        told.date(9999, 12, 31, wheel.go(2, 0, false, 0), wheel, 0);
        told.date(-9999, 1, 1, wheel.go(1, 0, true, 0), wheel, 0);
        wheel.span(0, 0, 0, 0);
        told.date(9999, 12, 31, wheel.go(2, 0, false, 0), wheel, 0);
        told.date(-9999, 1, 1, wheel.go(1, 0, true, 0), wheel, 0);
        wheel.span(0, 19998, 11, 30);
        told.date(9999, 12, 31, wheel.go(1, 0, false, 0), wheel, 0);
        wheel.span(0, 19998, 11, 31);
        told.refusedOn("a day too far", Check.UNSUPPORTED, wheel, w -> w.go(1, 0, false, 0));
        told.refusedOn("a day too far back", Check.UNSUPPORTED, wheel, w -> w.go(2, 0, true, 0));
    }

    private static void spanPart() {
        Sentence told = Sentence.of(17, "'y' its years, 'm' its months, 'd' its days");
        for (int part = 0; part < 3; part++) {
            hasPart(told, part, MILLION, ofPart(part, MILLION), 0);
            hasPart(told, part, -MILLION, ofPart(part, -MILLION), 0);
        }
        Sentence.of(17, Sentence.NO_SLOT).onlySlots(4, (w, slot) -> w.spanPart(slot, 'y'));
        Sentence.of(17, "Throws `IllegalArgumentException` if there is no such thing")
                .onlySigns("ymd", (w, sign) -> w.spanPart(0, sign));
    }

    private static void addSpan() {
        Sentence.of(18, Sentence.NO_SLOT_FOR_ANY).onlySlots(4, (w, slot) -> w.addSpan(slot, 3, true, 0))
                .onlySlots(4, (w, slot) -> w.addSpan(3, slot, true, 0))
                .onlySlots(4, (w, slot) -> w.addSpan(3, 3, true, slot));
        Sentence told = Sentence.of(18, "Throws `UnsupportedOperationException` if a number would be out of range");
        for (int part = 0; part < 3; part++) {
            for (int sign = -1; sign <= 1; sign += 2) {
                addOut(told, part, sign);
            }
        }
    }

    private static void addOut(Sentence told, int part, int sign) {
        Yearwheel wheel = ofPart(part, sign * (MILLION - 1));
        wheel.span(1, part == 0 ? sign : 0, part == 1 ? sign : 0, part == 2 ? sign : 0);
        wheel.timesSpan(1, -1, 2);
        wheel.addSpan(0, 1, false, 3);
        hasPart(told, part, sign * MILLION, wheel, 3);
        wheel.addSpan(0, 2, true, 3);
        hasPart(told, part, sign * MILLION, wheel, 3);
        told.refusedOn("one more", Check.UNSUPPORTED, wheel, w -> w.addSpan(3, 1, false, 0));
        told.refusedOn("less one below", Check.UNSUPPORTED, wheel, w -> w.addSpan(3, 2, true, 0));
        told.refusedOn("twice the most", Check.UNSUPPORTED, wheel, w -> w.addSpan(3, 3, false, 3));
        wheel.timesSpan(3, -1, 2);
        told.refusedOn("less the other end", Check.UNSUPPORTED, wheel, w -> w.addSpan(2, 3, true, 1));
        wheel.addSpan(3, 2, false, 1);
        hasPart(told, part, 0, wheel, 1);
    }

    private static void timesSpan() {
        Sentence number = Sentence.of(19, "by how many, -100 to 100");
        Yearwheel wheel = of(3, -4, 5);
        number.span(300, -400, 500, wheel.timesSpan(0, 100, 1), wheel, 1);
        number.span(-300, 400, -500, wheel.timesSpan(0, -100, 1), wheel, 1);
        number.span(0, 0, 0, wheel.timesSpan(0, 0, 1), wheel, 1);
        number.refusedNumbers(Check.ARGUMENT, (w, n) -> w.timesSpan(3, (int) n, 0), 101, -101, LEAST, MOST);
        Sentence.of(19, Sentence.NO_SLOT_FOR_ANY).onlySlots(4, (w, slot) -> w.timesSpan(slot, 1, 0))
                .onlySlots(4, (w, slot) -> w.timesSpan(0, 1, slot));
        Sentence none = Sentence.of(19, "Throws `IllegalArgumentException` if the number is out of range");
        Yearwheel empty = new Yearwheel();
        none.refusedOn("though it would come to 0", Check.ARGUMENT, empty, w -> w.timesSpan(0, 101, 1));
        none.refusedOn("though it would come to 0", Check.ARGUMENT, empty, w -> w.timesSpan(0, -101, 1));
    }

    private static void timesOut() {
        Sentence told = Sentence.of(19, "Throws `UnsupportedOperationException` if one of it would be");
        for (int part = 0; part < 3; part++) {
            for (int sign = -1; sign <= 1; sign += 2) {
                Yearwheel wheel = ofPart(part, sign * 10000);
                wheel.timesSpan(0, 100, 1);
                hasPart(told, part, sign * MILLION, wheel, 1);
                wheel.timesSpan(0, -100, 1);
                hasPart(told, part, -sign * MILLION, wheel, 1);
                Yearwheel far = ofPart(part, sign * 10001);
                told.refusedOn("too far", Check.UNSUPPORTED, far, w -> w.timesSpan(0, 100, 1));
                told.refusedOn("too far back", Check.UNSUPPORTED, far, w -> w.timesSpan(0, -100, 1));
                Yearwheel half = ofPart(part, sign * 500001);
                told.refusedOn("twice", Check.UNSUPPORTED, half, w -> w.timesSpan(0, 2, 0));
                told.refusedOn("twice back", Check.UNSUPPORTED, half, w -> w.timesSpan(0, -2, 0));
                Yearwheel whole = ofPart(part, sign * MILLION);
                whole.timesSpan(0, -1, 0);
                hasPart(told, part, -sign * MILLION, whole, 0);
                told.refusedOn("the most by the most", Check.UNSUPPORTED, whole, w -> w.timesSpan(0, 100, 0));
            }
        }
    }

    private static void plainSpan() {
        Sentence.of(20, Sentence.NO_SLOT_FOR_ANY).onlySlots(4, (w, slot) -> w.plainSpan(slot, 0))
                .onlySlots(4, (w, slot) -> w.plainSpan(0, slot));
        Sentence told = Sentence.of(20, "Throws `UnsupportedOperationException` if its years would be out of range");
        for (int sign = -1; sign <= 1; sign += 2) {
            Yearwheel wheel = of(sign * MILLION, sign * 11, -sign * MILLION);
            told.span(sign * MILLION, sign * 11, -sign * MILLION, wheel.plainSpan(0, 1), wheel, 1);
            wheel.span(0, sign * (MILLION - 1), sign * 12, 0);
            told.span(sign * MILLION, 0, 0, wheel.plainSpan(0, 1), wheel, 1);
            wheel.span(0, sign * MILLION, -sign, 0);
            told.span(sign * (MILLION - 1), sign * 11, 0, wheel.plainSpan(0, 1), wheel, 1);
            wheel.span(0, 0, sign * MILLION, 0);
            told.span(sign * 83333, sign * 4, 0, wheel.plainSpan(0, 1), wheel, 1);
            told.refusedOn("a year too many", Check.UNSUPPORTED, of(sign * MILLION, sign * 12, 0),
                    w -> w.plainSpan(0, 1));
            told.refusedOn("far too many", Check.UNSUPPORTED, of(sign * MILLION, sign * MILLION, 0),
                    w -> w.plainSpan(0, 0));
        }
    }
}
