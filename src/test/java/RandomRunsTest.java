import java.lang.reflect.InvocationTargetException;
import java.lang.reflect.Method;
import java.util.Arrays;
import java.util.Random;

/** All promises: long runs of any calls on a wheel and on its mirror over java.time. */
public final class RandomRunsTest {
    private static final int RUNS = 6000;
    private static final int CALLS = 250;
    private static final String SIGNS = "ymwdhisnNpPflFLb";
    private static final int[] WILD = {0, -1, 1, 12, 13, 31, 60, 100, -100, 101, 366, 1000, 1001, 9999, -9999, 10000,
            999999, 1000000, -1000000, 1000001, -1000001, 999999999, 1000000000, Integer.MAX_VALUE, Integer.MIN_VALUE};
    private static final long[] WILD_LONG = {86399999999999L, 86400000000000L, 999999999999L, 1000000000000L,
            -1000000000000L, 1000000000001L, 1000000000000000L, -1000000000000000L, 1000000000000001L,
            -1000000000000001L, 2932896, 2932897, -4371587, -4371588, Long.MAX_VALUE, Long.MIN_VALUE, 1L << 32};

    /** The calls with the kinds of their arguments, as argument() tells. */
    private static final String[] CALLED = {"date DYmd", "ofDay DN", "day D", "part Dc", "move DcaD", "with DcvD",
            "adjust DcD", "weekday DcwD", "inMonth DwwD", "atYear mdYD", "order DD", "between DDc", "span Saaa",
            "until DDS", "go DSbD", "spanPart Sc", "addSpan SSbS", "timesSpan StS", "plainSpan SS", "month SYm",
            "moveMonth ScaS", "monthPart Sc", "atDay SdD", "orderMonths SS", "time Shuuf", "ofBillionths SB",
            "timePart Sc", "moveTime ScAS", "cutTime ScS", "goTime SSbS", "orderTimes SS", "length SAA",
            "lengthPart Sc", "addLength SSbS", "timesLength StS", "lengthOfTimes SSS", "orderLengths SS",
            "moment SDS", "dateOf SD", "timeOf SS", "moveMoment ScAS", "goMoment SSbS", "lengthOfMoments SSS",
            "whole SSc", "orderMoments SS", "longShare ", "meanDay ", "checksum ", "isSound "};

    public static void main(String[] args) throws ReflectiveOperationException {
        for (int run = 0; run < RUNS; run++) {
            // Each third run keeps near one date, where months are cut and spans are short.
            oneRun(new Random(run), run % 3 == 0);
        }
        Check.end("RandomRunsTest");
    }

    private static void oneRun(Random random, boolean isNear) throws ReflectiveOperationException {
        Yearwheel wheel = new Yearwheel();
        Mirror mirror = new Mirror();
        StringBuilder told = new StringBuilder();
        for (int i = 0; i < CALLS; i++) {
            String[] called = CALLED[random.nextInt(CALLED.length)].split(" ", 2);
            Object[] given = new Object[called[1].length()];
            for (int at = 0; at < given.length; at++) {
                given[at] = argument(random, called[1].charAt(at), isNear);
            }
            Object due = answer(mirror, called[0], given);
            Object got = answer(wheel, called[0], given);
            told.append(called[0]).append(Arrays.toString(given)).append(' ').append(got).append("; ");
            if (due.equals(got) && mirror.checksum() == wheel.checksum()) {
                Check.holds("as due", true);
            } else {
                Check.fail("due is " + due + ", at the end of " + told);
                return;
            }
        }
    }

    private static Object answer(Object on, String name, Object[] given) throws ReflectiveOperationException {
        for (Method method : on.getClass().getDeclaredMethods()) {
            if (method.getName().equals(name) && method.getParameterCount() == given.length) {
                try {
                    return method.invoke(on, given);
                } catch (InvocationTargetException thrown) {
                    return thrown.getCause().getClass();
                }
            }
        }
        throw new NoSuchMethodException(name);
    }

    private static Object argument(Random random, char kind, boolean isNear) {
        boolean isWild = random.nextInt(40) == 0;
        switch (kind) {
            case 'D':
                return isWild ? WILD[random.nextInt(WILD.length)] : random.nextInt(6);
            case 'S':
                return isWild ? WILD[random.nextInt(WILD.length)] : random.nextInt(4);
            case 'c':
                return isWild ? (char) random.nextInt(600) : SIGNS.charAt(random.nextInt(SIGNS.length()));
            case 'b':
                return random.nextBoolean();
            case 'N':
            case 'A':
            case 'B':
                return isWild ? WILD_LONG[random.nextInt(WILD_LONG.length)] : wide(random, kind, isNear);
            default:
                return isWild ? WILD[random.nextInt(WILD.length)] : narrow(random, kind, isNear);
        }
    }

    private static Object wide(Random random, char kind, boolean isNear) {
        if (kind == 'N') {
            return isNear ? 19000L + random.nextInt(1000) : -4371600L + random.nextInt(7304520);
        }
        long most = 1L << random.nextInt(kind == 'B' ? 47 : isNear ? 20 : 51);
        long number = Math.floorMod(random.nextLong(), most);
        return kind == 'A' && random.nextBoolean() ? -number : number;
    }

    private static Object narrow(Random random, char kind, boolean isNear) {
        switch (kind) {
            case 'Y':
                return isNear ? 2018 + random.nextInt(8) : random.nextInt(20001) - 10000;
            case 'm':
                return random.nextInt(12) + 1;
            case 'd':
                return random.nextInt(3) == 0 ? 27 + random.nextInt(6) : random.nextInt(32);
            case 'w':
                return random.nextInt(9) - (random.nextInt(3) == 0 ? 7 : 0);
            case 't':
                return random.nextInt(9) - 4;
            case 'v':
                return random.nextInt(3) == 0 ? random.nextInt(20000) - 10000 : random.nextInt(367);
            case 'h':
                return random.nextInt(24);
            case 'u':
                return random.nextInt(60);
            case 'f':
                return random.nextInt(1000000000);
            default:
                int most = 1 << random.nextInt(isNear ? 7 : 20);
                return random.nextInt(2 * most) - most;
        }
    }
}
