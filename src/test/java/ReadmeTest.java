import java.io.IOException;
import java.lang.reflect.InvocationTargetException;
import java.lang.reflect.Method;
import java.nio.charset.StandardCharsets;
import java.nio.file.DirectoryStream;
import java.nio.file.Files;
import java.nio.file.Path;
import java.util.regex.Matcher;
import java.util.regex.Pattern;

/** Makes the run of calls that README.md shows, and looks whether it names each test; run from the project's folder. */
public final class ReadmeTest {
    private static final Check CHECK = new Check("ReadmeTest");
    private static final String MAKING = "RiptideLedger store = new RiptideLedger();";
    // A line of the run: a call, the answer that is due behind //, and perhaps a remark behind a colon.
    private static final Pattern CALL =
            Pattern.compile("store\\.(\\w+)\\((.*?)\\); +// (throws \\w+|'.'|[^:\\s]+)(: .+)?");

    private ReadmeTest() { }

    public static void main(String[] args) throws IOException, IllegalAccessException {
        String text = Files.readString(Path.of("README.md"), StandardCharsets.UTF_8);
        Matcher block = Pattern.compile("```java\n(.*?)```", Pattern.DOTALL).matcher(text);
        int blocks = 0;
        while (block.find()) {
            blocks++;
            run(block.group(1).split("\n"));
        }
        CHECK.due("runs shown:", 1, blocks);
        try (DirectoryStream<Path> tests = Files.newDirectoryStream(Path.of("src/test/java"), "*Test.java")) {
            for (Path test : tests) {
                String name = test.getFileName().toString();
                CHECK.due("places in which it names " + name + " (1 for any)", 1, text.contains(name) ? 1 : 0);
            }
        }
        CHECK.end();
    }

    private static void run(String[] lines) throws IllegalAccessException {
        CHECK.dueText(MAKING, lines[0]);
        RiptideLedger store = new RiptideLedger();
        for (int place = 1; place < lines.length; place++) {
            Matcher call = CALL.matcher(lines[place]);
            CHECK.due("is a call with its answer (1 is true), '" + lines[place] + "':", 1, call.matches() ? 1 : 0);
            if (call.matches()) {
                String got = answer(store, call.group(1), call.group(2));
                CHECK.dueText(lines[place] + " -> " + call.group(3), lines[place] + " -> " + got);
            }
        }
    }

    private static String answer(RiptideLedger store, String name, String given) throws IllegalAccessException {
        String[] texts = given.isEmpty() ? new String[0] : given.split(", ");
        for (Method method : RiptideLedger.class.getMethods()) {
            if (method.getName().equals(name) && method.getParameterCount() == texts.length) {
                return told(store, method, texts);
            }
        }
        return "no such call";
    }

    private static String told(RiptideLedger store, Method method, String[] texts) throws IllegalAccessException {
        Object[] given = new Object[texts.length];
        for (int place = 0; place < texts.length; place++) {
            boolean isTruth = method.getParameterTypes()[place] == boolean.class;
            given[place] = isTruth ? (Object) Boolean.valueOf(texts[place]) : (Object) Integer.valueOf(texts[place]);
        }
        try {
            Object got = method.invoke(store, given);
            return got instanceof Character ? "'" + got + "'" : String.valueOf(got);
        } catch (InvocationTargetException e) {
            return "throws " + e.getCause().getClass().getSimpleName();
        }
    }
}
