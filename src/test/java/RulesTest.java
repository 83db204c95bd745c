import java.io.IOException;
import java.lang.reflect.Constructor;
import java.lang.reflect.Field;
import java.lang.reflect.Method;
import java.lang.reflect.Modifier;
import java.nio.charset.StandardCharsets;
import java.nio.file.Files;
import java.nio.file.Path;
import java.util.ArrayList;
import java.util.List;
import java.util.TreeSet;
import java.util.regex.Matcher;
import java.util.regex.Pattern;

/** The document's face word for word, and what can be seen of ../shared/LANGUAGE.md from the program's text. */
public final class RulesTest {
    private static final Path PROJECT = Path.of(System.getProperty("project", "."));

    public static void main(String[] args) throws IOException {
        String source = Files.readString(PROJECT.resolve("src/main/java/Yearwheel.java"), StandardCharsets.US_ASCII);
        String code = source.replaceAll("(?s)/\\*.*?\\*/", " ").replaceAll("//[^\n]*", " ");
        String document = Files.readString(PROJECT.resolve("../shared/DOC.md"));
        faceIsWordForWord(code.replaceAll("\\s+", " "), document);
        nothingElseIsSeen();
        nothingForbidden(code);
        thrownOnly(code);
        methodsAreShort(code);
        Check.end("RulesTest");
    }

    private static List<String> face(String document) {
        int start = document.indexOf("```java");
        List<String> lines = new ArrayList<>();
        for (String line : document.substring(start, document.indexOf("```", start + 3)).split("\n")) {
            if (line.startsWith("    public ")) {
                lines.add(line.trim().replace(";", ""));
            }
        }
        return lines;
    }

    private static void faceIsWordForWord(String code, String document) {
        List<String> face = face(document);
        Check.same("the constructor and 49 methods", 50, face.size());
        for (String line : face) {
            Check.holds("the face lacks " + line, code.contains(line + " {"));
        }
        Check.holds("the class is public and final", code.contains("public final class Yearwheel {"));
        Matcher seen = Pattern.compile("\\b(public|protected)\\b").matcher(code);
        int count = 0;
        while (seen.find()) {
            count++;
        }
        Check.same("public words", face.size() + 1, count);
    }

    /** Rule 1. */
    private static void nothingElseIsSeen() {
        TreeSet<String> open = new TreeSet<>();
        for (Method method : Yearwheel.class.getDeclaredMethods()) {
            if (Modifier.isPublic(method.getModifiers())) {
                open.add(method.getName());
                Check.holds("a method of the face is not static", !Modifier.isStatic(method.getModifiers()));
            }
        }
        for (Method method : Yearwheel.class.getDeclaredMethods()) {
            if (!Modifier.isPublic(method.getModifiers())) {
                Check.holds(method + " is not private", Modifier.isPrivate(method.getModifiers()));
                Check.holds(method + " bears a public name", !open.contains(method.getName()));
            }
        }
        for (Field field : Yearwheel.class.getDeclaredFields()) {
            Check.holds(field + " is not private", Modifier.isPrivate(field.getModifiers()));
        }
        Constructor<?>[] constructors = Yearwheel.class.getDeclaredConstructors();
        Check.same("constructors", 1, constructors.length);
        for (Class<?> inside : Yearwheel.class.getDeclaredClasses()) {
            int modifiers = inside.getModifiers();
            Check.holds(inside + " is not static", Modifier.isStatic(modifiers));
            Check.holds(inside + " is seen", !Modifier.isPublic(modifiers) && !Modifier.isProtected(modifiers));
            for (Field field : inside.getDeclaredFields()) {
                Check.holds(field + " is static, not final", !Modifier.isStatic(field.getModifiers())
                        || Modifier.isFinal(field.getModifiers()));
            }
        }
    }

    /** Rules 3 to 10 and 13, as far as words tell. */
    private static void nothingForbidden(String code) {
        String[] words = {"\\bimport\\b", "\\bpackage\\b", "\\bstatic \\{", "\\btry\\b", "\\bcatch\\b", "\\bfinally\\b",
                "\\bsynchronized\\b", "\\bassert\\b", "->", "::", "Exact\\b", "\\bSystem\\b", "\\bThread\\b",
                "\\bRandom\\b", "\\bequals\\b", "\\bhashCode\\b", "\\btoString\\b", "\\bvolatile\\b",
                "\\bnative\\b", "\\bvar\\b", "\\bObject\\b", "\\bjava\\.", "\\bMath\\.(?!floorDiv|floorMod|min|max)",
                "\"\\s*\\+", "\\+\\s*\""};
        for (String word : words) {
            Matcher found = Pattern.compile(word).matcher(code);
            Check.holds("the program holds " + word, !found.find());
        }
        for (char sign : code.toCharArray()) {
            if (sign != '\n' && (sign < 32 || sign > 126)) {
                Check.fail("a sign " + (int) sign);
            }
        }
    }

    /** Rule 6. */
    private static void thrownOnly(String code) {
        Matcher thrown = Pattern.compile("\\bthrow\\b[^;]*;").matcher(code);
        Pattern form = Pattern.compile("throw new (IndexOutOfBounds|IllegalArgument|UnsupportedOperation)Exception"
                + "\\(\"[^\"]*\"\\);");
        while (thrown.find()) {
            Check.holds(thrown.group(), form.matcher(thrown.group()).matches());
        }
    }

    /** Rule 11. */
    private static void methodsAreShort(String code) {
        String[] lines = code.split("\n");
        int depth = 0;
        int start = 0;
        for (int at = 0; at < lines.length; at++) {
            boolean isHead = lines[at].matches(" +(public|private|static)\\b.*") && lines[at].indexOf(';') < 0;
            if (isHead && !lines[at].contains(" class ")) {
                start = at;
                Check.holds("too many parameters: " + lines[at], lines[at].split(",").length <= 7);
            }
            depth += lines[at].length() - lines[at].replace("{", "").length();
            depth -= lines[at].length() - lines[at].replace("}", "").length();
            if (lines[at].trim().equals("}")) {
                Check.holds("too long, from " + lines[start], at - start <= 60 || depth == 0);
            }
        }
        Check.same("all that opens closes", 0, depth);
    }
}
