import java.lang.reflect.InvocationTargetException;
import java.lang.reflect.Method;
import java.lang.reflect.Modifier;
import java.util.ArrayList;
import java.util.HashMap;
import java.util.List;
import java.util.Map;
import java.util.Set;

/**
 * Boundary cases. Each is a sentence of the document and a run of calls on a new object, a call a line:
 * "name argument argument = answer", or without an answer where the line only leads there.
 * An argument may be MIN or MAX (of an int), an answer MIN (of a long); the line tape "text" feeds a text,
 * and plan, planFor, book with a "text" in place of n feed it first.
 * Of every line that is refused, and of every line that only looks, it is asked that nothing is changed
 * but what the document tells; and every answer that is due is asked of the slow model, too.
 */
final class Edge {
    /** 692 SHARES: 1 for 4 at 100 is 173 NEW. */
    static final String SMALL = """
        holder 0 400 10000
        holder 1 202 0
        holder 2 90 100000
        """;
    /** RIGHTS 100, 50, 22 and one FRACTION. */
    static final String OPENED = SMALL + "open\n";
    /** A RUMP of 173. */
    static final String CLOSED = OPENED + "close\n";
    static final String DONE = CLOSED + "done\n";

    private static final Set<String> CHANGING = Set.of("feed", "holder", "terms", "rule", "layer", "drawn", "give", "split",
        "open", "sell", "take", "excess", "tail", "plan", "stand", "withdraw", "close", "book", "done", "anew", "planFor",
        "keep", "undo");
    private static final Map<String, Method> FACE = face();

    /** An object may be used for 512 calls: these are left when all has been looked at. */
    private static final int MOST_CALLS = 512 - 300;

    private final Due due = new Due();

    private static final class Line {
        String text;
        Method method;
        int[] arguments;
        boolean asked;
        long want;

        boolean onlyLooks() {
            return !CHANGING.contains(method.getName());
        }

        boolean refused() {
            return method.getReturnType() == boolean.class ? want == 0 : want < 0;
        }

        boolean reads() {
            return Set.of("plan", "planFor", "book").contains(method.getName());
        }

        /** Whether the text on the tape was read, so that it is empty then. */
        boolean emptiesTape() {
            return reads() && (want >= 0 || want <= -1000);
        }

        long on(NilPaid x) {
            Object[] values = new Object[arguments.length];
            for (int i = 0; i < values.length; i++) {
                values[i] = method.getParameterTypes()[i] == boolean.class ? arguments[i] != 0 : (Object) arguments[i];
            }
            try {
                Object answer = method.invoke(x, values);
                return answer instanceof Boolean ? (Boolean) answer ? 1 : 0 : ((Number) answer).longValue();
            } catch (IllegalAccessException | InvocationTargetException e) {
                throw new IllegalStateException(text, e);
            }
        }
    }

    private static Map<String, Method> face() {
        Map<String, Method> all = new HashMap<>();
        for (Method m : NilPaid.class.getDeclaredMethods()) {
            if (Modifier.isPublic(m.getModifiers())) {
                all.put(m.getName(), m);
            }
        }
        return all;
    }

    /** The boundary case that a sentence names: the calls of all the parts, one behind the other. */
    void edge(String sentence, String... parts) {
        due.about(sentence);
        List<Line> lines = readAll(parts);
        NilPaid x = new NilPaid();
        Model model = new Model();
        int asked = 0;
        for (int i = 0; i < lines.size(); i++) {
            Line line = lines.get(i);
            long got = line.on(x);
            long modelled = model.call(line.method.getName(), line.arguments);
            if (line.asked) {
                asked++;
                due.due(line.text, got, line.want);
                due.due(line.text + " (the model)", modelled, line.want);
                nothingElse(lines, i);
            } else {
                due.due(line.text + " (the model)", modelled, got);
            }
        }
        due.due("calls that are asked", asked > 0, true);
        due.due("calls on one object", lines.size() <= MOST_CALLS, true);
    }

    /** Calls that only look, behind the calls of all the parts: whatever they answer, nothing is changed. */
    void looks(String sentence, String calls, String... parts) {
        due.about(sentence);
        List<Line> lines = readAll(parts);
        int from = lines.size();
        lines.addAll(readAll(calls));
        for (int i = from; i < lines.size(); i++) {
            due.due(lines.get(i).text + " only looks", lines.get(i).onlyLooks(), true);
            nothingElse(lines, i);
        }
    }

    void end() {
        due.end();
    }

    private static List<Line> readAll(String... parts) {
        List<Line> lines = new ArrayList<>();
        for (String part : parts) {
            for (String line : part.split("\n")) {
                read(line.strip(), lines);
            }
        }
        return lines;
    }

    private static void read(String text, List<Line> into) {
        if (text.isEmpty() || text.startsWith("#")) {
            return;
        }
        int from = text.indexOf('"');
        int to = text.lastIndexOf('"');
        if (from < to) {
            readTape(text.substring(from + 1, to), into);
            if (!text.startsWith("tape ")) {
                readCall(text, text.substring(0, from) + (to - from - 1) + text.substring(to + 1), into);
            }
            return;
        }
        readCall(text, text, into);
    }

    private static void readCall(String told, String text, List<Line> into) {
        Line line = new Line();
        line.text = told;
        String[] sides = text.split(" = ");
        String[] words = sides[0].strip().split(" +");
        line.method = FACE.get(words[0]);
        if (line.method == null || line.method.getParameterCount() != words.length - 1) {
            throw new IllegalArgumentException(text);
        }
        line.arguments = new int[words.length - 1];
        for (int i = 1; i < words.length; i++) {
            line.arguments[i - 1] = (int) value(words[i], Integer.MIN_VALUE);
        }
        line.asked = sides.length == 2;
        line.want = line.asked ? value(sides[1].strip(), Long.MIN_VALUE) : 0;
        into.add(line);
    }

    private static long value(String word, long least) {
        switch (word) {
            case "true": return 1;
            case "false": return 0;
            case "MIN": return least;
            case "MAX": return Integer.MAX_VALUE;
            default: return Long.parseLong(word);
        }
    }

    private static void readTape(String text, List<Line> into) {
        StringBuilder filled = new StringBuilder(text);
        while (filled.length() % 20 != 0) {
            filled.append('a');
        }
        for (int at = 0; at < filled.length(); at += 20) {
            StringBuilder call = new StringBuilder("feed");
            for (int word = 0; word < 5; word++) {
                int bytes = 0;
                for (int i = 0; i < 4; i++) {
                    bytes = bytes << 8 | filled.charAt(at + 4 * word + i) & 255;
                }
                call.append(' ').append(bytes);
            }
            read(call.toString(), into);
        }
    }

    /** A line that is refused or only looks changes nothing; the tape is empty if it was read. */
    private void nothingElse(List<Line> lines, int i) {
        Line line = lines.get(i);
        boolean planned = line.method.getName().equals("planFor");
        if (!line.onlyLooks() && !line.refused() && !planned) {
            if (line.emptiesTape()) {
                due.due(line.text + ", the tape then", after(lines, i + 1).count(18), 0);
            }
            return;
        }
        due.row(line.text + " changes nothing", looks(after(lines, i + 1)), looks(after(lines, i)));
        long tape = line.emptiesTape() ? 0 : after(lines, i).count(18);
        due.due(line.text + ", the tape then", after(lines, i + 1).count(18), tape);
        if (tape > 0) {
            due.row(line.text + " changes no byte", bytes(after(lines, i + 1)), bytes(after(lines, i)));
        }
        long kept = after(lines, i).count(19);
        for (int back = 1; back <= kept; back++) {
            due.row(line.text + " changes nothing kept", undone(after(lines, i + 1), back), undone(after(lines, i), back));
        }
    }

    private static NilPaid after(List<Line> lines, int many) {
        NilPaid x = new NilPaid();
        for (int i = 0; i < many; i++) {
            lines.get(i).on(x);
        }
        return x;
    }

    /** All that can be looked at, but for the tape. */
    private static long[] looks(NilPaid x) {
        long[] row = Due.everything(x);
        row[18] = 0;
        return row;
    }

    private static long[] undone(NilPaid x, int back) {
        for (int i = 0; i < back; i++) {
            x.undo();
        }
        return looks(x);
    }

    /** What the tape's bytes are read as: a plan, or else a book. */
    private static long[] bytes(NilPaid x) {
        int n = (int) x.count(18);
        long plan = x.planFor(0, Math.min(n, 80), 0);
        long book = x.book(Math.min(n, 160));
        return new long[] {plan, book, x.bid(0, 0), x.bid(0, 1), x.bid(19, 1)};
    }
}
