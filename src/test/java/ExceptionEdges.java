import java.util.ArrayList;
import java.util.Arrays;
import java.util.List;

/** What the terms tell of exceptions, for each call that throws. */
final class ExceptionEdges {
    private static final Class<?> INDEX = Check.INDEX;
    private static final Class<?> ARGUMENT = Check.ARGUMENT;
    private static final Class<?> UNSUPPORTED = Check.UNSUPPORTED;
    private static final int MORE = Integer.MAX_VALUE;
    private static final long MOST = 1000000000000000L;

    /** A call on a stirred wheel: its date 1 is the first of all, its date 2 the last one, and so on. */
    private static final class Refusal {
        final String name;
        final Class<?> due;
        final Check.Call call;

        Refusal(String name, Class<?> due, Check.Call call) {
            this.name = name;
            this.due = due;
            this.call = call;
        }
    }

    static void all() {
        List<Refusal> several = new ArrayList<>();
        severalOfDates(several);
        severalOfSpans(several);
        severalOfMonths(several);
        severalOfTimes(several);
        severalOfLengths(several);
        severalOfMoments(several);
        Sentence first = Sentence.of("Exceptions", "If several exceptions apply, the one that is documented first is "
                + "thrown.");
        for (Refusal each : several) {
            first.refused(each.name, each.due, each.call);
        }
        List<Refusal> single = new ArrayList<>();
        single(single);
        singleOfTheRest(single);
        single.addAll(several);
        nothingIsChanged(single);
    }

    private static void add(List<Refusal> to, String name, Class<?> due, Check.Call... calls) {
        for (int i = 0; i < calls.length; i++) {
            to.add(new Refusal(name + ", the call " + (i + 1), due, calls[i]));
        }
    }

    private static void severalOfDates(List<Refusal> to) {
        add(to, "date", INDEX, w -> w.date(6, 10000, 1, 1), w -> w.date(-1, 2023, 13, 1), w -> w.date(6, 2023, 2, 29));
        add(to, "ofDay", INDEX, w -> w.ofDay(6, 2932897), w -> w.ofDay(-1, -4371588));
        add(to, "part", INDEX, w -> w.part(6, 'x'), w -> w.part(-1, 'Y'));
        add(to, "move", INDEX, w -> w.move(6, 'x', 1, 0), w -> w.move(0, 'x', 1, 6), w -> w.move(6, 'd', 1000001, 0),
                w -> w.move(0, 'd', 1000001, -1), w -> w.move(2, 'd', 1, 6), w -> w.move(1, 'y', -1, -1),
                w -> w.move(2, 'x', 1000001, 6), w -> w.move(6, 'y', 1000000, 6));
        add(to, "move", ARGUMENT, w -> w.move(2, 'x', 1, 0), w -> w.move(2, 'd', 1000001, 0),
                w -> w.move(1, 'y', -1000001, 0), w -> w.move(1, 'x', MORE, 0));
        add(to, "with", INDEX, w -> w.with(6, 'x', 1, 0), w -> w.with(0, 'x', 1, 6), w -> w.with(6, 'd', 0, 0),
                w -> w.with(0, 'm', 13, -1), w -> w.with(0, 'n', 367, 6), w -> w.with(0, 'y', 10000, 6));
        add(to, "adjust", INDEX, w -> w.adjust(6, 'x', 0), w -> w.adjust(0, 'x', 6), w -> w.adjust(2, 'n', 6),
                w -> w.adjust(2, 'N', -1));
        add(to, "adjust", ARGUMENT, w -> w.adjust(2, 'x', 0), w -> w.adjust(2, '\0', 0));
        add(to, "weekday", INDEX, w -> w.weekday(6, 'x', 1, 0), w -> w.weekday(0, 'x', 1, 6),
                w -> w.weekday(6, 'n', 8, 0), w -> w.weekday(0, 'n', 0, -1), w -> w.weekday(2, 'n', 1, 6),
                w -> w.weekday(1, 'p', 1, 6), w -> w.weekday(2, 'x', 8, 6));
        add(to, "weekday", ARGUMENT, w -> w.weekday(2, 'n', 8, 0), w -> w.weekday(1, 'p', 0, 0),
                w -> w.weekday(2, 'x', 1, 0), w -> w.weekday(2, 'N', 8, 0), w -> w.weekday(1, 'P', 0, 0));
        add(to, "inMonth", INDEX, w -> w.inMonth(6, 7, 1, 0), w -> w.inMonth(0, -7, 1, 6), w -> w.inMonth(6, 1, 8, 0),
                w -> w.inMonth(0, 1, 0, -1), w -> w.inMonth(2, 6, 1, 6), w -> w.inMonth(1, 0, 1, -1));
        add(to, "inMonth", ARGUMENT, w -> w.inMonth(2, 7, 1, 0), w -> w.inMonth(1, -7, 1, 0),
                w -> w.inMonth(2, 6, 8, 0), w -> w.inMonth(1, 0, 0, 0));
        add(to, "atYear", INDEX, w -> w.atYear(13, 1, 2023, 6), w -> w.atYear(1, 32, 2023, -1),
                w -> w.atYear(1, 1, 10000, 6));
        add(to, "between", INDEX, w -> w.between(6, 0, 'x'), w -> w.between(0, 6, 'x'), w -> w.between(-1, -1, 'x'));
    }

    private static void severalOfSpans(List<Refusal> to) {
        add(to, "span", INDEX, w -> w.span(4, 1000001, 0, 0), w -> w.span(-1, 0, -1000001, 0),
                w -> w.span(4, 0, 0, 1000001));
        add(to, "until", INDEX, w -> w.until(2, 1, 4), w -> w.until(2, 1, -1), w -> w.until(2, 6, 0));
        add(to, "go", INDEX, w -> w.go(2, 3, true, 6), w -> w.go(1, 3, false, -1), w -> w.go(2, 4, true, 0),
                w -> w.go(6, 1, false, 0));
        add(to, "spanPart", INDEX, w -> w.spanPart(4, 'x'), w -> w.spanPart(-1, 'x'));
        add(to, "addSpan", INDEX, w -> w.addSpan(1, 1, false, 4), w -> w.addSpan(1, 2, true, -1),
                w -> w.addSpan(4, 1, false, 0), w -> w.addSpan(1, 4, false, 0));
        add(to, "timesSpan", INDEX, w -> w.timesSpan(4, 101, 0), w -> w.timesSpan(0, -101, 4),
                w -> w.timesSpan(1, 2, 4), w -> w.timesSpan(1, 101, -1));
        add(to, "timesSpan", ARGUMENT, w -> w.timesSpan(1, 101, 0), w -> w.timesSpan(2, -101, 0),
                w -> w.timesSpan(1, MORE, 0));
        add(to, "plainSpan", INDEX, w -> w.plainSpan(1, 4), w -> w.plainSpan(1, -1));
    }

    private static void severalOfMonths(List<Refusal> to) {
        add(to, "month", INDEX, w -> w.month(4, 10000, 1), w -> w.month(-1, 2023, 13), w -> w.month(4, -10000, 0));
        add(to, "moveMonth", INDEX, w -> w.moveMonth(4, 'x', 1, 0), w -> w.moveMonth(0, 'x', 1, 4),
                w -> w.moveMonth(4, 'm', 1000001, 0), w -> w.moveMonth(0, 'm', -1000001, -1),
                w -> w.moveMonth(2, 'm', 1, 4), w -> w.moveMonth(1, 'y', -1, -1));
        add(to, "moveMonth", ARGUMENT, w -> w.moveMonth(2, 'x', 1, 0), w -> w.moveMonth(2, 'm', 1000001, 0),
                w -> w.moveMonth(1, 'y', -1000001, 0));
        add(to, "monthPart", INDEX, w -> w.monthPart(4, 'x'), w -> w.monthPart(-1, 'x'));
        add(to, "atDay", INDEX, w -> w.atDay(4, 32, 0), w -> w.atDay(0, 30, 6), w -> w.atDay(0, -1, -1));
    }

    private static void severalOfTimes(List<Refusal> to) {
        add(to, "time", INDEX, w -> w.time(4, 24, 0, 0, 0), w -> w.time(-1, 0, 60, 0, 0), w -> w.time(4, 0, 0, 60, 0),
                w -> w.time(4, 0, 0, 0, 1000000000));
        add(to, "ofBillionths", INDEX, w -> w.ofBillionths(4, -1), w -> w.ofBillionths(-1, 86400000000000L));
        add(to, "timePart", INDEX, w -> w.timePart(4, 'x'), w -> w.timePart(-1, 'x'));
        add(to, "moveTime", INDEX, w -> w.moveTime(4, 'x', 1, 0), w -> w.moveTime(0, 'x', 1, 4),
                w -> w.moveTime(4, 'h', MOST + 1, 0), w -> w.moveTime(0, 'n', -MOST - 1, -1));
        add(to, "cutTime", INDEX, w -> w.cutTime(4, 'x', 0), w -> w.cutTime(0, 'n', 4), w -> w.cutTime(0, 'x', -1));
    }

    private static void severalOfLengths(List<Refusal> to) {
        long most = 1000000000000L;
        add(to, "length", INDEX, w -> w.length(4, most + 1, 0), w -> w.length(-1, 0, MOST + 1),
                w -> w.length(4, most, 1), w -> w.length(-1, -most, -1));
        add(to, "length", ARGUMENT, w -> w.length(0, most + 1, 1), w -> w.length(0, -most - 1, -1),
                w -> w.length(0, most, MOST + 1), w -> w.length(0, -most, -MOST - 1),
                w -> w.length(0, Long.MAX_VALUE, Long.MAX_VALUE), w -> w.length(0, Long.MIN_VALUE, Long.MIN_VALUE));
        add(to, "lengthPart", INDEX, w -> w.lengthPart(4, 'x'), w -> w.lengthPart(-1, 'x'));
        add(to, "addLength", INDEX, w -> w.addLength(0, 0, false, 4), w -> w.addLength(0, 1, true, -1),
                w -> w.addLength(4, 0, false, 0), w -> w.addLength(0, 4, false, 0));
        add(to, "timesLength", INDEX, w -> w.timesLength(4, 1001, 0), w -> w.timesLength(2, -1001, 4),
                w -> w.timesLength(0, 2, 4), w -> w.timesLength(0, 1001, -1));
        add(to, "timesLength", ARGUMENT, w -> w.timesLength(0, 1001, 0), w -> w.timesLength(1, -1001, 0));
    }

    private static void severalOfMoments(List<Refusal> to) {
        add(to, "moveMoment", INDEX, w -> w.moveMoment(4, 'x', 1, 0), w -> w.moveMoment(0, 'x', 1, 4),
                w -> w.moveMoment(4, 'd', 1000001, 0), w -> w.moveMoment(0, 'h', MOST + 1, -1),
                w -> w.moveMoment(2, 'n', 1, 4), w -> w.moveMoment(1, 'y', -1, -1));
        add(to, "moveMoment", ARGUMENT, w -> w.moveMoment(2, 'x', 1, 0), w -> w.moveMoment(2, 'd', 1000001, 0),
                w -> w.moveMoment(1, 'y', -1000001, 0), w -> w.moveMoment(2, 'h', MOST + 1, 0),
                w -> w.moveMoment(1, 's', -MOST - 1, 0), w -> w.moveMoment(2, 'm', MOST, 0));
        add(to, "goMoment", INDEX, w -> w.goMoment(2, 3, false, 4), w -> w.goMoment(1, 3, true, -1),
                w -> w.goMoment(2, 4, false, 0), w -> w.goMoment(4, 0, false, 0));
        add(to, "whole", INDEX, w -> w.whole(4, 0, 'x'), w -> w.whole(0, 4, 'x'), w -> w.whole(-1, -1, 'x'));
    }

    /** Each call that throws, by each exception that it throws, and with each slot that it changes. */
    private static void single(List<Refusal> to) {
        add(to, "a slot", INDEX, w -> w.date(6, 2023, 1, 1), w -> w.ofDay(6, 0), w -> w.day(6), w -> w.part(6, 'y'),
                w -> w.move(6, 'd', 1, 0), w -> w.with(6, 'd', 1, 0), w -> w.adjust(6, 'f', 0),
                w -> w.weekday(6, 'f', 1, 0), w -> w.inMonth(6, 1, 1, 0), w -> w.atYear(1, 1, 2023, 6),
                w -> w.order(6, 0), w -> w.between(6, 0, 'd'), w -> w.span(4, 1, 1, 1), w -> w.until(6, 2, 0),
                w -> w.go(0, 4, false, 0), w -> w.spanPart(4, 'y'), w -> w.addSpan(0, 4, false, 0),
                w -> w.timesSpan(4, 1, 0), w -> w.plainSpan(4, 0));
        add(to, "a slot", INDEX, w -> w.month(4, 2023, 1), w -> w.moveMonth(4, 'm', 1, 0), w -> w.monthPart(4, 'y'),
                w -> w.atDay(4, 1, 0), w -> w.orderMonths(4, 0), w -> w.time(4, 1, 1, 1, 1),
                w -> w.ofBillionths(4, 1), w -> w.timePart(4, 'h'), w -> w.moveTime(4, 'h', 1, 0),
                w -> w.cutTime(4, 'h', 0), w -> w.goTime(0, 4, false, 0), w -> w.orderTimes(4, 0),
                w -> w.length(4, 1, 1), w -> w.lengthPart(4, 's'), w -> w.addLength(3, 4, false, 0),
                w -> w.timesLength(4, 1, 0), w -> w.lengthOfTimes(0, 4, 0), w -> w.orderLengths(4, 0));
        add(to, "a slot", INDEX, w -> w.moment(0, 6, 0), w -> w.moment(0, 0, 4), w -> w.dateOf(4, 0),
                w -> w.timeOf(4, 0), w -> w.moveMoment(4, 'd', 1, 0), w -> w.goMoment(0, 4, false, 0),
                w -> w.lengthOfMoments(0, 4, 0), w -> w.whole(4, 0, 'd'), w -> w.orderMoments(4, 0));
    }

    private static void singleOfTheRest(List<Refusal> to) {
        add(to, "an argument", ARGUMENT, w -> w.date(0, 2023, 2, 29), w -> w.part(0, 'x'), w -> w.move(0, 'x', 1, 1),
                w -> w.move(0, 'd', 1000001, 1), w -> w.with(0, 'd', 30, 1), w -> w.with(0, 'n', 367, 1),
                w -> w.with(0, 'm', 13, 1), w -> w.with(0, 'y', 10000, 1), w -> w.with(0, 'x', 1, 1),
                w -> w.adjust(0, 'x', 1), w -> w.weekday(0, 'x', 1, 1), w -> w.weekday(0, 'n', 8, 1),
                w -> w.inMonth(0, 7, 1, 1), w -> w.inMonth(0, 1, 8, 1), w -> w.atYear(2, 30, 2024, 1),
                w -> w.between(0, 1, 'x'), w -> w.span(0, 1, 1, 1000001), w -> w.spanPart(0, 'x'),
                w -> w.timesSpan(3, 101, 0), w -> w.month(0, 2023, 13), w -> w.moveMonth(0, 'x', 1, 1),
                w -> w.moveMonth(0, 'm', 1000001, 1), w -> w.monthPart(0, 'x'), w -> w.atDay(0, 30, 1));
        add(to, "an argument", ARGUMENT, w -> w.time(0, 1, 1, 1, 1000000000), w -> w.ofBillionths(0, 86400000000000L),
                w -> w.timePart(0, 'x'), w -> w.moveTime(0, 'i', 1, 1), w -> w.moveTime(0, 'h', MOST + 1, 1),
                w -> w.cutTime(0, 'n', 1), w -> w.length(0, 1, MOST + 1), w -> w.lengthPart(0, 'x'),
                w -> w.timesLength(2, 1001, 0), w -> w.moveMoment(0, 'x', 1, 1), w -> w.moveMoment(0, 'd', 1000001, 1),
                w -> w.moveMoment(0, 'n', MOST + 1, 1), w -> w.whole(0, 1, 'x'));
        add(to, "an outcome", UNSUPPORTED, w -> w.ofDay(0, 2932897), w -> w.move(2, 'd', 1, 0),
                w -> w.adjust(2, 'n', 0), w -> w.weekday(2, 'n', 1, 0), w -> w.inMonth(1, 0, 1, 0),
                w -> w.until(2, 1, 0), w -> w.go(1, 3, false, 0), w -> w.addSpan(1, 1, false, 0),
                w -> w.timesSpan(1, 2, 0), w -> w.plainSpan(1, 0), w -> w.moveMonth(2, 'm', 1, 0),
                w -> w.length(0, 1000000000000L, 1), w -> w.addLength(0, 3, false, 2), w -> w.timesLength(0, 2, 2),
                w -> w.moveMoment(2, 'n', 1, 0), w -> w.moveMoment(1, 'd', -1, 0), w -> w.goMoment(2, 3, false, 0));
        // Where but one part of it is out of range, or but the last one that is looked at.
        add(to, "a part of an outcome", UNSUPPORTED, w -> w.addSpan(1, 0, false, 3), w -> w.addSpan(2, 3, false, 3),
                w -> w.timesSpan(2, -2, 2), w -> w.goMoment(1, 2, false, 1), w -> w.go(2, 3, true, 2));
    }

    private static void nothingIsChanged(List<Refusal> refusals) {
        Sentence told = Sentence.of("Exceptions", "A method that throws an exception changes nothing.");
        for (Refusal each : refusals) {
            told.refused(each.name, each.due, each.call);
        }
        // One behind the other, on one wheel, and then what each slot holds, moments by themselves too.
        Yearwheel wheel = Check.stirred();
        told.holds("fewer than 512 calls, with those of Check", refusals.size() <= 400);
        for (Refusal each : refusals) {
            told.holds(each.name, Check.thrown(() -> each.call.on(wheel)) == each.due);
        }
        Yearwheel due = Check.stirred();
        told.holds("all is as it was", Arrays.equals(Check.picture(due), Check.picture(wheel)));
        for (int slot = 0; slot < 4; slot++) {
            told.same("the date of a moment", due.dateOf(slot, 0), wheel.dateOf(slot, 0));
            told.same("the time of a moment", due.timeOf(slot, 0), wheel.timeOf(slot, 0));
        }
    }
}
