import java.io.File;
import java.lang.reflect.Method;
import java.lang.reflect.Modifier;
import java.nio.file.Files;
import java.nio.file.Path;
import java.util.regex.Matcher;
import java.util.regex.Pattern;

/** README.md says how the class is used: what it says there is so. */
public final class ReadmeTest {
    private static final Due DUE = new Due();

    public static void main(String[] args) throws Exception {
        String readme = Files.readString(Path.of("README.md"));
        DUE.about("README.md");
        runAnswers(readme);
        everyCallIsNamed(readme);
        everyTestIsNamed(readme);
        theHelperIsOneThatRuns(readme);
        textsAreReadAsTold();
        DUE.end();
    }

    /** The run under "Use": each line is a call with its answer behind it. */
    private static void runAnswers(String readme) throws Exception {
        Pattern call = Pattern.compile("(?m)^x\\.(\\w+)\\((.*?)\\); *// (true|false|-?\\d+):");
        int from = readme.indexOf("NilPaid x = new NilPaid();");
        String run = readme.substring(from, readme.indexOf("```", from));
        Matcher lines = call.matcher(run);
        NilPaid x = new NilPaid();
        int many = 0;
        while (lines.find()) {
            many++;
            Method method = named(lines.group(1));
            Object answer = method.invoke(x, arguments(lines.group(2)));
            DUE.due(lines.group() + " answered " + answer, String.valueOf(answer).equals(lines.group(3)), true);
        }
        DUE.due("lines of the run", many, run.split("\n").length - 1);
    }

    private static Object[] arguments(String told) {
        if (told.isEmpty()) {
            return new Object[0];
        }
        String[] words = told.split(", ");
        Object[] values = new Object[words.length];
        for (int i = 0; i < words.length; i++) {
            values[i] = Integer.decode(words[i]);
        }
        return values;
    }

    private static Method named(String name) {
        for (Method m : NilPaid.class.getMethods()) {
            if (m.getName().equals(name)) {
                return m;
            }
        }
        throw new IllegalArgumentException(name);
    }

    private static void everyCallIsNamed(String readme) {
        String calls = readme.substring(readme.indexOf("### Calls"), readme.indexOf("### Refusals"));
        for (Method m : NilPaid.class.getDeclaredMethods()) {
            if (Modifier.isPublic(m.getModifiers())) {
                DUE.due(m.getName() + " is named", calls.contains("`" + m.getName() + "`"), true);
            }
        }
    }

    private static void everyTestIsNamed(String readme) {
        String tests = readme.substring(readme.indexOf("## Tests"));
        for (File f : new File("src/test/java").listFiles()) {
            String name = f.getName().replace(".java", "");
            if (name.endsWith("Test")) {
                DUE.due(name + " is named", tests.contains("| `" + name + "` |"), true);
            }
        }
    }

    private static void theHelperIsOneThatRuns(String readme) throws Exception {
        int from = readme.indexOf("    static int feed(");
        String helper = readme.substring(from, readme.indexOf("```", from));
        DUE.due("the helper stands in Due", Files.readString(Path.of("src/test/java/Due.java")).contains(helper), true);
    }

    private static void textsAreReadAsTold() {
        NilPaid x = Due.opened();
        DUE.due("three orders", x.plan(0, Due.feed(x, "sell 10 at 70; take all; excess 5")), 3);
        DUE.row("holder 0 then", Due.holder(x, 0), 400, 10700, 90, 90, 5, 400, 0, 0, 0, 0, 0);
        DUE.due("two bids", x.book(Due.feed(x, "130x5; 120x50")), 2);
        DUE.due("fault 1 at byte 5", x.plan(0, Due.feed(x, "take x")), -1005);
    }
}
