import java.io.IOException;
import java.nio.charset.StandardCharsets;
import java.nio.file.Files;
import java.nio.file.Path;
import java.time.LocalDate;
import java.util.ArrayList;
import java.util.LinkedHashMap;
import java.util.List;
import java.util.Map;
import java.util.regex.Matcher;
import java.util.regex.Pattern;

/**
 * A sentence of ../shared/DOC.md, word for word, with what is looked at for it. None() tells of those that no test has
 * named, so that a promise can't lose its test, nor the document gain a sentence, unseen.
 */
final class Sentence {
    private static final Map<String, Place> PLACES = read();
    private static final List<Sentence> MADE = new ArrayList<>();

    static final String NO_SLOT = "Throws `IndexOutOfBoundsException` if there is no such slot";
    static final String NO_SLOT_FOR_ANY = NO_SLOT + ", for any";
    static final String ANOTHER_YEAR = "Throws `UnsupportedOperationException` if that has another year";

    private final String label;
    private int looked = 0;

    /** A part of the terms, or a promise. */
    private static final class Place {
        final String text;
        final boolean[] isNamed;
        final List<String> lines = new ArrayList<>();

        Place(String raw) {
            text = plain(raw);
            isNamed = new boolean[text.length()];
            for (String line : raw.split("\n\n|\n(?=- )")) {
                lines.add(plain(line));
            }
        }

        /** Where the words stand several times, each naming is of the next one. */
        boolean name(String words) {
            int at = text.indexOf(words);
            int next = at;
            while (next >= 0 && isNamed[next]) {
                next = text.indexOf(words, next + 1);
            }
            at = next >= 0 ? next : at;
            for (int i = 0; at >= 0 && i < words.length(); i++) {
                isNamed[at + i] = true;
            }
            return at >= 0;
        }
    }

    private Sentence(String label) {
        this.label = label;
    }

    static Sentence of(int promise, String words) {
        return of("Promise " + promise, words);
    }

    static Sentence of(String where, String words) {
        Sentence made = new Sentence(where.replace("Promise ", "") + " \"" + words + "\"");
        MADE.add(made);
        Place place = PLACES.get(where);
        Check.holds(made.label + " is not in the document", place != null && place.name(words));
        return made;
    }

    // What is looked at

    void same(String what, long due, long got) {
        looked++;
        Check.same(label + ": " + what, due, got);
    }

    void sameReal(String what, double due, double got) {
        looked++;
        Check.sameReal(label + ": " + what, due, got);
    }

    void holds(String what, boolean got) {
        looked++;
        Check.holds(label + ": " + what, got);
    }

    /** On a stirred wheel. */
    void refused(String what, Class<?> due, Check.Call call) {
        looked++;
        Check.refused(label + ": " + what, due, call);
    }

    void refusedOn(String what, Class<?> due, Yearwheel wheel, Check.Call call) {
        looked++;
        Check.refusedOn(label + ": " + what, due, wheel, call);
    }

    /** Each on a stirred wheel. */
    void refusedNumbers(Class<?> due, Check.NumberCall call, long... numbers) {
        looked++;
        Check.refusedNumbers(label, due, call, numbers);
    }

    /** Each on a stirred wheel: none of them is refused. */
    void takenNumbers(Check.NumberCall call, long... numbers) {
        for (long number : numbers) {
            looked++;
            Yearwheel wheel = Check.stirred();
            Check.holds(label + ": takes " + number, Check.thrown(() -> call.on(wheel, number)) == null);
        }
    }

    Sentence onlySlots(int count, Check.SlotCall call) {
        looked++;
        Check.onlySlots(label, count, call);
        return this;
    }

    void onlySigns(String told, Check.SignCall call) {
        looked++;
        for (char sign : told.toCharArray()) {
            Check.holds(label + ": takes " + sign, Check.thrown(() -> call.on(new Yearwheel(), sign)) == null);
        }
        Check.refusedSigns(label, told, call);
    }

    /** What the call answered is the number of that day, and its slot is that date. */
    void date(int year, int month, int day, long answered, Yearwheel wheel, int slot) {
        String what = LocalDate.of(year, month, day).toString();
        same(what, LocalDate.of(year, month, day).toEpochDay(), answered);
        same(what + ", its slot", answered, wheel.day(slot));
        same(what + ", its year", year, wheel.part(slot, 'y'));
        same(what + ", its month", month, wheel.part(slot, 'm'));
        same(what + ", its day", day, wheel.part(slot, 'd'));
    }

    void span(int years, int months, int days, long answered, Yearwheel wheel, int slot) {
        same("all months", 12L * years + months, answered);
        same("years", years, wheel.spanPart(slot, 'y'));
        same("months", months, wheel.spanPart(slot, 'm'));
        same("days", days, wheel.spanPart(slot, 'd'));
    }

    void month(int year, int month, int answered, Yearwheel wheel, int slot) {
        String what = year + "-" + month;
        same(what + ", its days", LocalDate.of(year, month, 1).lengthOfMonth(), answered);
        same(what + ", its slot", answered, wheel.monthPart(slot, 'l'));
        same(what + ", its year", year, wheel.monthPart(slot, 'y'));
        same(what + ", its number", month, wheel.monthPart(slot, 'm'));
    }

    void time(int hour, int minute, int second, int billionths, long answered, Yearwheel wheel, int slot) {
        same("all billionths", ((hour * 60L + minute) * 60 + second) * 1000000000 + billionths, answered);
        same("its hour", hour, wheel.timePart(slot, 'h'));
        same("its minute", minute, wheel.timePart(slot, 'm'));
        same("its second", second, wheel.timePart(slot, 's'));
        same("its billionths", billionths, wheel.timePart(slot, 'n'));
    }

    void length(long seconds, long billionths, long answered, Yearwheel wheel, int slot) {
        same("the answer", seconds, answered);
        same("its seconds", seconds, wheel.lengthPart(slot, 's'));
        same("its billionths", billionths, wheel.lengthPart(slot, 'n'));
    }

    /** The slots 5 of dates and 3 of times are used to read the moment. */
    void moment(int year, int month, int day, long time, long answered, Yearwheel wheel, int slot) {
        date(year, month, day, answered, wheel, momentDate(wheel, slot));
        same("the time of the moment", time, wheel.timeOf(slot, 3));
    }

    private static int momentDate(Yearwheel wheel, int slot) {
        wheel.dateOf(slot, 5);
        return 5;
    }

    // What is left

    /** All of the terms, and of the promises what tells of an edge, has been named, and looked at. */
    static void noneIsLeft() {
        for (Sentence each : MADE) {
            Check.holds(each.label + ": nothing is looked at", each.looked > 0);
        }
        for (Map.Entry<String, Place> each : PLACES.entrySet()) {
            if (each.getKey().startsWith("Promise ")) {
                promiseIsNamed(each.getKey(), each.getValue());
            } else {
                allIsNamed(each.getKey(), each.getValue());
            }
        }
    }

    private static void allIsNamed(String where, Place place) {
        StringBuilder left = new StringBuilder();
        for (int at = 0; at < place.text.length(); at++) {
            left.append(place.isNamed[at] ? ' ' : place.text.charAt(at));
        }
        Check.same(where + " has no test of: " + plain(left.toString()) + ", words", 0,
                left.toString().replaceAll("[^A-Za-z0-9]", "").length());
    }

    private static void promiseIsNamed(String where, Place place) {
        int at = 0;
        for (String line : place.lines) {
            // The face and the names of parameters are code, not words.
            String words = line.replaceFirst("^(- )?`.*?`: ", "");
            at = place.text.indexOf(words, at);
            Check.holds(where + " is not read in order: " + words, at >= 0);
            if (line.startsWith("Throws ") || words.matches("(?s).*(\\d|'|first|last|below|Nothing).*")) {
                boolean isNamed = at >= 0;
                for (int i = 0; isNamed && i < words.length(); i++) {
                    isNamed = place.isNamed[at + i] || !Character.isLetterOrDigit(words.charAt(i));
                }
                Check.holds(where + " has no test of: " + words, isNamed);
            }
        }
    }

    // The document

    private static String plain(String text) {
        return text.replaceAll("\\s+", " ").trim();
    }

    private static Map<String, Place> read() {
        Path document = Path.of(System.getProperty("project", "."), "../shared/DOC.md");
        try {
            return places(Files.readString(document, StandardCharsets.UTF_8));
        } catch (IOException missing) {
            throw new IllegalStateException("no document at " + document, missing);
        }
    }

    private static Map<String, Place> places(String document) {
        Map<String, Place> found = new LinkedHashMap<>();
        put(found, "What it is", document, "An object is used .*?(?=\n## )");
        for (int part = 1; part <= 6; part++) {
            put(found, "Part " + part, document,
                    "(?<=\nPart " + part + ", [a-z ]{1,40}\\. ).*?(?=\n\nPart |\n\nExceptions\\. )");
        }
        put(found, "Exceptions", document, "(?<=\nExceptions\\. ).*?(?=\n\nAhead of )");
        for (int promise = 1; promise <= 50; promise++) {
            put(found, "Promise " + promise, document, "(?<=\n## Promise " + promise + ": \\w{1,40}\n\n).*?(?=\n## )");
        }
        // The name of the first promise is three words.
        put(found, "Promise 1", document, "(?<=\n## Promise 1: A new object\n\n).*?(?=\n## )");
        return found;
    }

    private static void put(Map<String, Place> found, String where, String document, String form) {
        Matcher matcher = Pattern.compile(form, Pattern.DOTALL).matcher(document);
        if (matcher.find()) {
            found.put(where, new Place(matcher.group()));
        }
    }
}
