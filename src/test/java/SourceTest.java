import java.io.IOException;
import java.nio.charset.StandardCharsets;
import java.nio.file.Files;
import java.nio.file.Path;
import java.util.HashSet;
import java.util.List;
import java.util.Set;
import java.util.regex.Matcher;
import java.util.regex.Pattern;

/** Rules of LANGUAGE.md that can be seen in the text of the class. It is run from the project's folder. */
public final class SourceTest {
    private static final Check CHECK = new Check("SourceTest");
    private static final Path SOURCE = Path.of("src/main/java/RiptideLedger.java");
    private static final List<String> FORBIDDEN = List.of("->", "::", "\\btry\\b", "\\bcatch\\b", "\\bfinally\\b",
            "\\bsynchronized\\b", "\\bassert\\b", "\\bvolatile\\b", "\\bpackage\\b", "\\bnative\\b", "@", "Exact\\(",
            "\\bSystem\\.(?!arraycopy)", "\\bThread\\b", "\\bRandom\\b", "\\binstanceof\\b", "\\bObject\\b",
            "\\bvar\\b", "\\bequals\\b", "\\bhashCode\\b", "\\btoString\\b", "static \\{", "\\bprotected\\b",
            "getMessage", "java\\.util\\.(?!ArrayList;|Arrays;|NoSuchElementException;)");

    private SourceTest() { }

    public static void main(String[] args) throws IOException {
        String text = Files.readString(SOURCE, StandardCharsets.ISO_8859_1);
        CHECK.due("signs beyond 127:", 0, text.chars().filter(sign -> sign > 127).count());
        String code = bare(text);
        for (String pattern : FORBIDDEN) {
            CHECK.due("places with " + pattern, 0, Pattern.compile(pattern).matcher(code).results().count());
        }
        staticFields(code);
        methodLengths(code);
        publicMembers(code);
        throwsInConstructors(code);
        namesOfPrivateMethods(code);
        CHECK.due("classes at most 12:", 1,
                Pattern.compile("\\b(class|record|enum|interface) \\w").matcher(code).results().count() <= 12 ? 1 : 0);
        CHECK.end();
    }

    /** The text without comments and without what stands in quotes; the lines stay. */
    private static String bare(String text) {
        String bare = text.replaceAll("\"(\\\\.|[^\"\\\\])*\"", "\"\"").replaceAll("'(\\\\.|[^'\\\\])'", "' '");
        bare = bare.replaceAll("//[^\n]*", "");
        Matcher comment = Pattern.compile("/\\*.*?\\*/", Pattern.DOTALL).matcher(bare);
        return comment.replaceAll(found -> found.group().replaceAll("[^\n]", ""));
    }

    private static void staticFields(String code) {
        Matcher field = Pattern.compile("\\bstatic\\b([^({;=]*)=").matcher(code);
        while (field.find()) {
            CHECK.due("a static field is final:", 1, field.group(1).contains("final") ? 1 : 0);
        }
    }

    private static void methodLengths(String code) {
        String[] lines = code.split("\n", -1);
        for (int first = 0; first < lines.length; first++) {
            Matcher head = Pattern.compile("^( {4}| {8})[\\w<][^=]*\\(.*").matcher(lines[first]);
            if (head.matches() && !lines[first].trim().endsWith(";")) {
                int last = first;
                while (last < lines.length && !lines[last].equals(head.group(1) + "}")) {
                    last++;
                }
                CHECK.due("at most 60 lines has " + lines[first].trim(), 1, last - first <= 60 ? 1 : 0);
                int depth = lines[first].split(",").length;
                CHECK.due("at most 7 parameters has " + lines[first].trim(), 1, depth <= 7 ? 1 : 0);
            }
        }
    }

    private static void publicMembers(String code) {
        Matcher inside = Pattern.compile("(?m)^ {8,}public\\b").matcher(code);
        CHECK.due("public members of classes inside", 0, inside.results().count());
        Matcher classes = Pattern.compile("(?m)^ {4}(?!private static).*\\bclass \\w").matcher(code);
        CHECK.due("classes inside that are not private and static", 0, classes.results().count());
    }

    private static void throwsInConstructors(String code) {
        Matcher maker = Pattern.compile("(?ms)^( {4}| {8})(public )?([A-Z]\\w*)\\([^)]*\\) \\{.*?^\\1\\}").matcher(code);
        while (maker.find()) {
            CHECK.due("throws in a constructor:", 0, maker.group().contains("throw ") ? 1 : 0);
        }
    }

    /** Rule 1: no private method bears the name of a public one, and neither does one of a class inside. */
    private static void namesOfPrivateMethods(String code) {
        Set<String> open = new HashSet<>();
        Matcher face = Pattern.compile("(?m)^ {4}public [\\w ]+ (\\w+)\\(").matcher(code);
        while (face.find()) {
            open.add(face.group(1));
        }
        CHECK.due("public methods", 51, open.size());
        String head = "(?m)^(?: {4}private| {8}\\w)[\\w<>\\[\\] ]* (\\w+)\\([^;]*\\{$";
        Matcher inside = Pattern.compile(head).matcher(code);
        while (inside.find()) {
            CHECK.due("a public name has " + inside.group(1), 0, open.contains(inside.group(1)) ? 1 : 0);
        }
    }
}
