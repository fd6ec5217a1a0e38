import java.lang.reflect.Constructor;
import java.lang.reflect.Field;
import java.lang.reflect.Method;
import java.lang.reflect.Modifier;
import java.nio.file.Files;
import java.nio.file.Path;
import java.util.ArrayList;
import java.util.Arrays;
import java.util.List;
import java.util.TreeSet;
import java.util.regex.Matcher;
import java.util.regex.Pattern;

/** The face as the document has it, and those rules of LANGUAGE.md that a reader of the source can see. */
public final class LanguageTest {
    private static int wrong = 0;

    public static void main(String[] args) throws Exception {
        String source = Files.readString(Path.of("src/main/java/NilPaid.java"));
        String doc = Files.readString(Path.of("../shared/DOC.md"));
        theFace(doc);
        noOtherMember();
        noMethodOfTheSameName();
        String bare = withoutCommentsAndTexts(source);
        words(bare);
        statics();
        shortMethods(source);
        System.out.println(wrong == 0 ? "the language is kept" : wrong + " rules are broken");
        if (wrong != 0) {
            System.exit(1);
        }
    }

    private static void ask(boolean good, String rule) {
        if (!good) {
            wrong++;
            System.out.println("broken: " + rule);
        }
    }

    private static String shape(Method m) {
        List<String> types = new ArrayList<>();
        for (Class<?> type : m.getParameterTypes()) {
            types.add(type.getName());
        }
        return m.getReturnType().getName() + " " + m.getName() + types;
    }

    private static void theFace(String doc) {
        TreeSet<String> due = new TreeSet<>();
        Matcher m = Pattern.compile("(?m)^    public (int|long|boolean) (\\w+)\\(([^)]*)\\);$").matcher(doc);
        while (m.find()) {
            List<String> types = new ArrayList<>();
            for (String argument : m.group(3).isEmpty() ? new String[0] : m.group(3).split(", ")) {
                types.add(argument.split(" ")[0]);
            }
            due.add(m.group(1) + " " + m.group(2) + types);
        }
        TreeSet<String> got = new TreeSet<>();
        for (Method method : NilPaid.class.getDeclaredMethods()) {
            if (!Modifier.isPrivate(method.getModifiers())) {
                got.add(shape(method));
                ask(Modifier.isPublic(method.getModifiers()) && !Modifier.isStatic(method.getModifiers()),
                    "1: " + method.getName() + " is public");
            }
        }
        ask(due.size() == 50, "50 methods are found in the document, not " + due.size());
        ask(due.equals(got), "1: the face is " + got + ", due is " + due);
    }

    private static void noOtherMember() {
        ask(Modifier.isFinal(NilPaid.class.getModifiers()) && Modifier.isPublic(NilPaid.class.getModifiers()),
            "1: public and final");
        Constructor<?>[] made = NilPaid.class.getDeclaredConstructors();
        ask(made.length == 1 && made[0].getParameterCount() == 0 && Modifier.isPublic(made[0].getModifiers()),
            "1: one public constructor");
        for (Field f : NilPaid.class.getDeclaredFields()) {
            ask(Modifier.isPrivate(f.getModifiers()) || f.getName().equals("NONE"), "1: the field " + f.getName());
        }
        for (Class<?> c : NilPaid.class.getDeclaredClasses()) {
            ask(Modifier.isStatic(c.getModifiers()) && !Modifier.isPublic(c.getModifiers()), "1: the class " + c.getName());
            ask(c.isRecord() || c.isEnum() || Modifier.isFinal(c.getModifiers()), "12: " + c.getName() + " is final");
            ask(instanceFields(c) <= 20, "11: the fields of " + c.getName());
        }
        ask(NilPaid.class.getDeclaredClasses().length < 12, "11: some twelve classes");
        ask(instanceFields(NilPaid.class) <= 20, "11: fields");
    }

    private static long instanceFields(Class<?> c) {
        return Arrays.stream(c.getDeclaredFields()).filter(f -> !Modifier.isStatic(f.getModifiers())).count();
    }

    private static void noMethodOfTheSameName() {
        TreeSet<String> names = new TreeSet<>();
        for (Method m : NilPaid.class.getMethods()) {
            names.add(m.getName());
        }
        for (Method m : NilPaid.class.getDeclaredMethods()) {
            ask(!Modifier.isPrivate(m.getModifiers()) || !names.contains(m.getName()), "1: private " + m.getName());
            ask(m.getParameterCount() <= 7, "11: parameters of " + m.getName());
        }
        for (Class<?> c : NilPaid.class.getDeclaredClasses()) {
            for (Method m : c.getDeclaredMethods()) {
                ask(!names.contains(m.getName()), "1: " + c.getName() + "." + m.getName());
                ask(m.getParameterCount() <= 7, "11: parameters of " + m.getName());
            }
        }
    }

    private static String withoutCommentsAndTexts(String source) {
        return source.replaceAll("(?s)/\\*.*?\\*/", "").replaceAll("//[^\n]*", "").replaceAll("\"[^\"\n]*\"", "\"\"");
    }

    private static void words(String bare) {
        String[] none = {"\\bthrow\\b", "\\btry\\b", "\\bcatch\\b", "\\bfinally\\b", "\\bsynchronized\\b", "\\bassert\\b",
            "->", "::", "Exact\\b", "\\bpackage\\b", "\\bimport\\b", "\\bprotected\\b", "\\bdouble\\b", "\\bfloat\\b",
            "\\bvar\\b", "\\bhashCode\\b", "\\btoString\\b", "\\bstatic \\{", "\\bSystem\\b", "\\bObject\\b", "\\?\\s*>",
            "\"\" *\\+", "\\+ *\"\"", "\\brecord\\b", "\\bThread\\b", "\\bRandom\\b"};
        for (String word : none) {
            Matcher m = Pattern.compile(word).matcher(bare);
            ask(!m.find(), "the source has " + word);
        }
    }

    private static void statics() {
        List<Class<?>> all = new ArrayList<>(List.of(NilPaid.class.getDeclaredClasses()));
        all.add(NilPaid.class);
        for (Class<?> c : all) {
            for (Field f : c.getDeclaredFields()) {
                boolean isStatic = Modifier.isStatic(f.getModifiers());
                ask(!isStatic || Modifier.isFinal(f.getModifiers()), "5: " + c.getName() + "." + f.getName());
                ask(!isStatic || f.getType() == int.class, "5: the type of " + f.getName());
            }
        }
    }

    private static void shortMethods(String source) {
        String[] lines = source.split("\n");
        int from = -1;
        for (int i = 0; i < lines.length; i++) {
            if (lines[i].matches(" {4}( {4})?(public |private |static |final )*[\\w\\[\\]]+ ?\\w*\\([^;]*\\) \\{")) {
                from = i;
            }
            if (from >= 0 && lines[i].matches(" {4}( {4})?}")) {
                ask(i - from <= 60, "11: the method at line " + (from + 1) + " is long");
                from = -1;
            }
        }
        for (String line : lines) {
            ask(line.chars().allMatch(c -> c >= 32 && c < 127), "4: signs of " + line);
        }
    }
}
