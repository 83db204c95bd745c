import java.io.IOException;
import java.lang.reflect.InvocationTargetException;
import java.lang.reflect.Method;
import java.lang.reflect.Modifier;
import java.nio.charset.StandardCharsets;
import java.nio.file.DirectoryStream;
import java.nio.file.Files;
import java.nio.file.Path;
import java.util.ArrayList;
import java.util.List;
import java.util.TreeMap;
import java.util.TreeSet;
import java.util.regex.Matcher;
import java.util.regex.Pattern;

/** README.md says what is so: its calls by the slots, its lines with their answers, its signs, its tests. */
public final class ReadmeTest {
    private static final Path PROJECT = Path.of(System.getProperty("project", "."));
    private static final Pattern ROW_OF_SLOTS = Pattern.compile("\\| (?:0 to (\\d+) )?\\| .+ \\| (`.+) \\|");
    private static final Pattern CALL = Pattern.compile("wheel\\.(\\w+)\\((.*)\\); +// (throws )?([-\\w.]+)(: .+)?");
    private static final Pattern ROW_OF_SIGNS = Pattern.compile("\\| (`\\w+`(?:, `\\w+`)*) \\| (`.` .+) \\|");
    private static final Pattern ROW_OF_TESTS = Pattern.compile("\\| `(\\w+Test)` \\| .+ \\|");
    private static final TreeMap<String, Method> FACE = face();

    public static void main(String[] args) throws IOException, IllegalAccessException {
        String page = Files.readString(PROJECT.resolve("README.md"), StandardCharsets.UTF_8);
        callsBySlots(page);
        linesWithAnswers(page);
        signs(page);
        tests(page);
        Check.end("ReadmeTest");
    }

    private static TreeMap<String, Method> face() {
        TreeMap<String, Method> face = new TreeMap<>();
        for (Method method : Yearwheel.class.getDeclaredMethods()) {
            if (Modifier.isPublic(method.getModifiers())) {
                face.put(method.getName(), method);
            }
        }
        return face;
    }

    private static List<Matcher> found(Pattern pattern, String page) {
        List<Matcher> found = new ArrayList<>();
        for (String line : page.split("\n")) {
            Matcher matcher = pattern.matcher(line);
            if (matcher.matches()) {
                found.add(matcher);
            }
        }
        return found;
    }

    private static List<String> quoted(String text) {
        List<String> words = new ArrayList<>();
        Matcher word = Pattern.compile("`(\\w+)`").matcher(text);
        while (word.find()) {
            words.add(word.group(1));
        }
        return words;
    }

    private static void callsBySlots(String page) {
        TreeSet<String> named = new TreeSet<>();
        String[] readers = {"day", "spanPart", "monthPart", "timePart", "lengthPart", "orderMoments", null};
        int rows = 0;
        for (Matcher row : found(ROW_OF_SLOTS, page)) {
            List<String> calls = quoted(row.group(2));
            named.addAll(calls);
            if (rows < readers.length && readers[rows] != null) {
                Check.holds(readers[rows] + " is in its row", calls.contains(readers[rows]));
                slotsAre(readers[rows], Integer.parseInt(row.group(1)));
            }
            rows++;
        }
        Check.same("rows of slots", readers.length, rows);
        Check.holds("the calls of README.md are " + named, named.equals(FACE.keySet()));
    }

    private static void slotsAre(String reader, int last) {
        Method method = FACE.get(reader);
        Object[] given = new Object[method.getParameterCount()];
        for (int at = 0; at < given.length; at++) {
            given[at] = method.getParameterTypes()[at] == char.class ? reader.equals("timePart") ? 'h'
                    : reader.equals("lengthPart") ? 's' : 'm' : (Object) 0;
        }
        for (int slot = -1; slot <= last + 1; slot++) {
            given[0] = slot;
            boolean isTaken = !answer(new Yearwheel(), method, given).startsWith("throws ");
            Check.same(reader + " takes the slot " + slot, slot >= 0 && slot <= last ? 1 : 0, isTaken ? 1 : 0);
        }
    }

    private static void linesWithAnswers(String page) {
        int start = page.indexOf("```java\n");
        String block = page.substring(start + 8, page.indexOf("```", start + 8));
        Yearwheel wheel = new Yearwheel();
        int answered = 0;
        for (String line : block.split("\n")) {
            Matcher call = CALL.matcher(line);
            if (call.matches()) {
                Method method = FACE.get(call.group(1));
                Object[] given = given(method, call.group(2).split(", "));
                String due = (call.group(3) == null ? "" : call.group(3)) + call.group(4);
                String got = answer(wheel, method, given);
                Check.holds(line + " answers " + got, due.equals(got));
                answered++;
            } else {
                Check.holds("a line with no answer: " + line, line.equals("Yearwheel wheel = new Yearwheel();"));
            }
        }
        Check.holds("lines with answers", answered >= 10);
    }

    private static Object[] given(Method method, String[] words) {
        Class<?>[] types = method.getParameterTypes();
        Object[] given = new Object[types.length];
        for (int at = 0; at < given.length; at++) {
            if (types[at] == char.class) {
                given[at] = words[at].charAt(1);
            } else if (types[at] == boolean.class) {
                given[at] = words[at].equals("true");
            } else if (types[at] == long.class) {
                given[at] = Long.parseLong(words[at]);
            } else {
                given[at] = Integer.parseInt(words[at]);
            }
        }
        return given;
    }

    private static String answer(Yearwheel wheel, Method method, Object[] given) {
        try {
            return String.valueOf(method.invoke(wheel, given));
        } catch (InvocationTargetException thrown) {
            return "throws " + thrown.getCause().getClass().getSimpleName();
        } catch (IllegalAccessException closed) {
            return closed.toString();
        }
    }

    private static void signs(String page) {
        TreeSet<String> named = new TreeSet<>();
        for (Matcher row : found(ROW_OF_SIGNS, page)) {
            String told = String.join("", quoted(row.group(2)));
            for (String call : quoted(row.group(1))) {
                named.add(call);
                signsAre(call, told);
            }
        }
        TreeSet<String> due = new TreeSet<>();
        for (Method method : FACE.values()) {
            if (List.of(method.getParameterTypes()).contains(char.class)) {
                due.add(method.getName());
            }
        }
        Check.holds("the calls with signs are " + named, named.equals(due));
    }

    private static void signsAre(String call, String told) {
        Method method = FACE.get(call);
        Class<?>[] types = method.getParameterTypes();
        for (char sign = 0; sign < 256; sign++) {
            Object[] given = new Object[types.length];
            for (int at = 0; at < given.length; at++) {
                // The 1 is a slot, a weekday, a part and an amount alike.
                given[at] = types[at] == char.class ? sign : types[at] == long.class ? 1L : (Object) 1;
            }
            boolean isTaken = !answer(new Yearwheel(), method, given).equals("throws IllegalArgumentException");
            Check.same(call + " takes the sign " + (int) sign, told.indexOf(sign) >= 0 ? 1 : 0, isTaken ? 1 : 0);
        }
    }

    private static void tests(String page) throws IOException {
        TreeSet<String> named = new TreeSet<>();
        for (Matcher row : found(ROW_OF_TESTS, page)) {
            named.add(row.group(1));
        }
        TreeSet<String> there = new TreeSet<>();
        try (DirectoryStream<Path> files = Files.newDirectoryStream(PROJECT.resolve("src/test/java"), "*Test.java")) {
            for (Path file : files) {
                there.add(file.getFileName().toString().replace(".java", ""));
            }
        }
        Check.holds("the tests are " + there + ", README.md names " + named, named.equals(there));
        Check.holds(".ci/run can be run", Files.isExecutable(PROJECT.resolve(".ci/run")));
    }
}
