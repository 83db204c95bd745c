import java.math.BigInteger;
import java.util.Arrays;

/** The sentences of the promises 47 to 50 that name an edge. */
final class WholeEdges {
    private static final BigInteger FACTOR = BigInteger.valueOf(31);

    static void all() {
        longShare();
        meanDay();
        checksum();
        isSound();
    }

    private static void longShare() {
        Sentence told = Sentence.of(47, "Returns how many divided by 6, both converted to float.");
        Yearwheel wheel = new Yearwheel();
        float[] due = {0.0f, 0.16666667f, 0.33333334f, 0.5f, 0.6666667f, 0.8333333f, 1.0f};
        told.sameReal("none", due[0], wheel.longShare());
        for (int slot = 0; slot < 6; slot++) {
            wheel.date(slot, 2024, 2, 29);
            told.sameReal(slot + 1 + " of them", due[slot + 1], wheel.longShare());
        }
        for (int slot = 0; slot < 6; slot++) {
            wheel.date(slot, slot % 2 == 0 ? 9999 : -9999, 1, 1);
            told.sameReal(5 - slot + " of them", due[5 - slot], wheel.longShare());
        }
    }

    private static void meanDay() {
        Sentence told = Sentence.of(48, "Returns the sum of the numbers divided by 6, both converted to double.");
        Yearwheel wheel = new Yearwheel();
        told.sameReal("at first", 0.0, wheel.meanDay());
        wheel.ofDay(5, 1);
        told.sameReal("a sixth of a day", 0.16666666666666666, wheel.meanDay());
        wheel.ofDay(5, -1);
        told.sameReal("a sixth below 0", -0.16666666666666666, wheel.meanDay());
        // The first day for all, then one more of the last day at a time.
        for (int slot = 0; slot < 6; slot++) {
            wheel.ofDay(slot, -4371587);
        }
        told.sameReal("all the first", -4371587.0, wheel.meanDay());
        double[] sums = {-18925039, -11620556, -4316073, 2988410, 10292893, 17597376};
        for (int slot = 0; slot < 6; slot++) {
            wheel.ofDay(slot, 2932896);
            told.sameReal(slot + 1 + " the last", sums[slot] / 6.0, wheel.meanDay());
        }
        told.sameReal("all the last", 2932896.0, wheel.meanDay());
    }

    /** Without a bound, so that what has gone round is known to have; some slots of dates and times are lost. */
    private static BigInteger unbound(Yearwheel wheel) {
        BigInteger sum = BigInteger.valueOf(7);
        for (int slot = 0; slot < 6; slot++) {
            sum = plus(sum, wheel.day(slot));
        }
        for (int slot = 0; slot < 4; slot++) {
            sum = plus(sum, wheel.spanPart(slot, 'y'), wheel.spanPart(slot, 'm'), wheel.spanPart(slot, 'd'));
        }
        for (int slot = 0; slot < 4; slot++) {
            sum = plus(sum, wheel.monthPart(slot, 'y'), wheel.monthPart(slot, 'm'));
        }
        for (int slot = 0; slot < 4; slot++) {
            long minutes = wheel.timePart(slot, 'h') * 60 + wheel.timePart(slot, 'm');
            sum = plus(sum, (minutes * 60 + wheel.timePart(slot, 's')) * 1000000000 + wheel.timePart(slot, 'n'));
        }
        for (int slot = 0; slot < 4; slot++) {
            sum = plus(sum, wheel.lengthPart(slot, 's'), wheel.lengthPart(slot, 'n'));
        }
        for (int slot = 0; slot < 4; slot++) {
            sum = plus(sum, wheel.dateOf(slot, 0), wheel.timeOf(slot, 0));
        }
        return sum;
    }

    private static BigInteger plus(BigInteger sum, long... more) {
        BigInteger all = sum;
        for (long each : more) {
            all = all.multiply(FACTOR).add(BigInteger.valueOf(each));
        }
        return all;
    }

    private static void checksum() {
        Sentence told = Sentence.of(49, "Returns 7 at first, then 31 times itself plus each of: the numbers of the "
                + "days of dates; of each span its years, months and days; of each month its year and its number; of "
                + "each time the number of its billionths; of each length its seconds and its billionths; of each "
                + "moment the number of its day and that of the billionths of its time; a long that goes round.");
        told.same("of a new one", 6408849972315480451L, new Yearwheel().checksum());
        Yearwheel[] wheels = {new Yearwheel(), Check.stirred(), filled(1), filled(-1)};
        for (Yearwheel wheel : wheels) {
            long got = wheel.checksum();
            BigInteger due = unbound(wheel);
            told.holds("it goes round", due.bitLength() > 64);
            told.same("what is left of it", due.longValue(), got);
        }
        Yearwheel wheel = new Yearwheel();
        long before = wheel.checksum();
        wheel.span(3, 0, 0, 1);
        told.holds("it is of what there is now", before != wheel.checksum());
        wheel.span(3, 0, 0, 0);
        told.same("and of nothing else", before, wheel.checksum());
    }

    /** With the most, or the least, in all slots. */
    private static Yearwheel filled(int sign) {
        Yearwheel wheel = new Yearwheel();
        for (int slot = 0; slot < 6; slot++) {
            wheel.ofDay(slot, sign > 0 ? 2932896 : -4371587);
        }
        for (int slot = 0; slot < 4; slot++) {
            wheel.span(slot, sign * 1000000, sign * 1000000, sign * 1000000);
            wheel.month(slot, sign * 9999, sign > 0 ? 12 : 1);
            wheel.ofBillionths(slot, sign > 0 ? 86399999999999L : 0);
            wheel.length(slot, sign * 1000000000000L, 0);
            wheel.moment(slot, slot, slot);
        }
        return wheel;
    }

    private static void isSound() {
        Sentence told = Sentence.of(50, "Checks the theorem for what the slots hold: each date against its number, the "
                + "next one, its weekday, months forward and back; each two dates, times and moments by what leads "
                + "from one to the other.");
        Sentence unchanged = Sentence.of(50, "Nothing is changed by that.");
        for (Yearwheel wheel : new Yearwheel[] {new Yearwheel(), Check.stirred(), filled(1), filled(-1), ends()}) {
            long[] before = Check.picture(wheel);
            told.holds("it is so", wheel.isSound());
            unchanged.holds("as it was", Arrays.equals(before, Check.picture(wheel)));
        }
    }

    /** Ends of months, of a long year and of another one, and times on both sides of midnight. */
    private static Yearwheel ends() {
        Yearwheel wheel = new Yearwheel();
        int[][] dates = {{2024, 1, 31}, {2024, 2, 29}, {2023, 2, 28}, {2024, 3, 31}, {2023, 12, 31}, {2024, 1, 1}};
        for (int slot = 0; slot < 6; slot++) {
            wheel.date(slot, dates[slot][0], dates[slot][1], dates[slot][2]);
        }
        long[] times = {0, 86399999999999L, 1, 43200000000000L};
        for (int slot = 0; slot < 4; slot++) {
            wheel.ofBillionths(slot, times[slot]);
            wheel.moment(slot, slot + 2, slot);
        }
        return wheel;
    }
}
