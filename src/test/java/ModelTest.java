import java.lang.reflect.Method;
import java.lang.reflect.Modifier;
import java.util.ArrayList;
import java.util.Arrays;
import java.util.List;
import java.util.Random;

/** Random runs of 500 calls on NilPaid and on the slow model: every answer is the same. */
public final class ModelTest {
    private static final int RUNS = 1500;
    private static final int CALLS = 500;

    private final Random random;
    private final NilPaid x = new NilPaid();
    private final Model model = new Model();
    private final List<String> told = new ArrayList<>();
    private static final List<Method> FACE = face();
    private static final int[] USED = new int[FACE.size()];
    private static final int[] GOOD = new int[FACE.size()];

    private ModelTest(long seed) {
        random = new Random(seed);
    }

    private static List<Method> face() {
        List<Method> all = new ArrayList<>();
        for (Method m : NilPaid.class.getDeclaredMethods()) {
            if (Modifier.isPublic(m.getModifiers())) {
                all.add(m);
            }
        }
        all.sort((a, b) -> a.getName().compareTo(b.getName()));
        return all;
    }

    public static void main(String[] args) throws Exception {
        int runs = args.length > 0 ? Integer.parseInt(args[0]) : RUNS;
        long from = args.length > 1 ? Long.parseLong(args[1]) : 0;
        for (long seed = from; seed < from + runs; seed++) {
            ModelTest t = new ModelTest(seed);
            if (!t.run()) {
                System.out.println("seed " + seed);
                t.told.subList(Math.max(0, t.told.size() - 60), t.told.size()).forEach(System.out::println);
                System.exit(1);
            }
        }
        boolean all = true;
        for (int i = 0; i < USED.length; i++) {
            if (GOOD[i] == 0) {
                System.out.println(FACE.get(i).getName() + " was never answered well in " + USED[i] + " calls");
                all = false;
            }
        }
        System.out.println(runs + " runs of " + CALLS + " calls are as the model says");
        if (!all && runs >= RUNS) {
            System.exit(1);
        }
    }

    private boolean run() throws Exception {
        boolean big = random.nextInt(4) == 0;
        for (int i = 0; i < CALLS; i++) {
            if (random.nextInt(12) == 0) {
                if (!feedAndRead()) {
                    return false;
                }
                continue;
            }
            Method m = FACE.get(random.nextInt(FACE.size()));
            String name = m.getName();
            if (rare(name) && random.nextInt(rarity()) != 0) {
                continue;
            }
            int[] a = new int[m.getParameterCount()];
            for (int j = 0; j < a.length; j++) {
                a[j] = m.getParameterTypes()[j] == boolean.class ? random.nextInt(2) : argument(name, j, big);
            }
            if (!same(m, a)) {
                return false;
            }
        }
        return true;
    }

    /** What moves the stages comes seldom, so that each of them lasts. */
    private static boolean rare(String name) {
        return List.of("open", "close", "done", "anew", "undo").contains(name);
    }

    private int rarity() {
        return model.s.stage == 1 ? 6 : 2;
    }

    private boolean feedAndRead() throws Exception {
        boolean isBook = random.nextInt(3) == 0;
        String text = isBook ? bookText() : random.nextInt(6) == 0 ? fullPlanText() : planText();
        if (text.length() > 160) {
            text = text.substring(0, 160);
        }
        int[] words = new int[(text.length() + 19) / 20 * 5];
        for (int i = 0; i < words.length * 4; i++) {
            words[i / 4] = words[i / 4] << 8 | (i < text.length() ? text.charAt(i) & 255 : ' ');
        }
        int at = model.tape.size();
        if (at > 0 && random.nextInt(4) != 0) {
            return same(method("book"), new int[] {1});
        }
        for (int i = 0; i < words.length; i += 5) {
            if (!same(method("feed"), Arrays.copyOfRange(words, i, i + 5))) {
                return false;
            }
        }
        told.add("  (text: " + text + ")");
        int n = random.nextInt(10) == 0 ? random.nextInt(165) : at + text.length();
        int h = random.nextInt(20) == 0 ? 10 : random.nextInt(10);
        if (isBook) {
            return same(method("book"), new int[] {n});
        }
        if (random.nextBoolean()) {
            return same(method("plan"), new int[] {h, n});
        }
        return same(method("planFor"), new int[] {h, n, random.nextInt(4)});
    }

    private static Method method(String name) {
        for (Method m : FACE) {
            if (m.getName().equals(name)) {
                return m;
            }
        }
        throw new IllegalArgumentException(name);
    }

    private String blanks() {
        return random.nextInt(4) == 0 ? " ".repeat(random.nextInt(3)) : "";
    }

    private String number(int usual) {
        switch (random.nextInt(12)) {
            case 0: return "0";
            case 1: return "" + random.nextInt(10000000);
            case 2: return "0" + random.nextInt(usual);
            default: return "" + random.nextInt(usual);
        }
    }

    private String planText() {
        StringBuilder text = new StringBuilder(blanks());
        int orders = 1 + random.nextInt(4);
        for (int i = 0; i < orders; i++) {
            text.append(i > 0 ? blanks() + ";" + blanks() : "");
            switch (random.nextInt(7)) {
                case 0: text.append("take ").append(number(200)); break;
                case 1: text.append("take").append(" ").append(blanks()).append("all"); break;
                case 2: text.append("excess").append(blanks()).append(number(3000)); break;
                case 3: text.append("lapse"); break;
                case 4: text.append("tail").append(blanks()).append(number(300)); break;
                case 5: text.append("sell").append(number(60)).append(blanks()).append("at").append(number(200)); break;
                default: text.append("buy").append(number(30)).append(blanks()).append("from").append(random.nextInt(11))
                    .append(blanks()).append("at").append(blanks()).append(number(200)); break;
            }
        }
        return disturbed(text.append(blanks()), " ;takelxcspirfomby0123456789\u00ff\u0000");
    }

    /** Some 80 bytes: as many short orders as there is room for, and what is behind them. */
    private String fullPlanText() {
        StringBuilder text = new StringBuilder();
        while (text.length() < 76) {
            text.append(random.nextInt(8) == 0 ? "take" + random.nextInt(100) : "lapse");
            text.append(random.nextInt(20) == 0 ? " ;" : ";");
        }
        for (int i = random.nextInt(5); i > 0; i--) {
            text.append("  ;l5".charAt(random.nextInt(5)));
        }
        text.setLength(Math.min(text.length(), random.nextInt(8) == 0 ? 81 : 80));
        return random.nextInt(4) == 0 ? disturbed(text, " ;lapsetk05") : text.toString();
    }

    private String bookText() {
        StringBuilder text = new StringBuilder(blanks());
        int bids = random.nextInt(8) == 0 ? 19 + random.nextInt(4) : 1 + random.nextInt(8);
        for (int i = 0; i < bids; i++) {
            text.append(i > 0 ? blanks() + ";" + blanks() : "");
            text.append(bids > 15 ? "" + (1 + random.nextInt(300)) : 1 + random.nextInt(12000));
            text.append(blanks()).append("x").append(blanks()).append(1 + random.nextInt(random.nextBoolean() ? 50 : 3000));
        }
        return disturbed(text.append(blanks()), " ;x0123456789a\u00ff");
    }

    private String disturbed(StringBuilder text, String signs) {
        if (random.nextInt(3) == 0) {
            for (int i = random.nextInt(3); i >= 0; i--) {
                int at = random.nextInt(text.length() + 1);
                char c = signs.charAt(random.nextInt(signs.length()));
                switch (random.nextInt(3)) {
                    case 0: text.insert(at, c); break;
                    case 1: text.setCharAt(Math.min(at, text.length() - 1), c); break;
                    default: text.setLength(Math.max(1, at)); break;
                }
            }
        }
        return text.toString();
    }

    private static final int[] EDGES = {-2, -1, 0, 1, 2, 3, 4, 9, 10, 11, 12, 13, 19, 20, 21, 999, 1000, 1001, 9999, 10000,
        10001, 16000, 16001, 99999, 100000, 100001, 999999, 1000000, 1000001, 999999999, 1000000000, 1000000001,
        2000000000, 2000000001, Integer.MAX_VALUE, Integer.MIN_VALUE};

    private int argument(String name, int j, boolean big) {
        if (random.nextInt(25) == 0) {
            return EDGES[random.nextInt(EDGES.length)];
        }
        switch (name + j) {
            case "holder1": return random.nextInt(big ? 100001 : 3000);
            case "holder2": return random.nextInt(big ? 1000000001 : 1000000);
            case "terms0": case "terms1": case "ifTerms0": case "ifTerms1": return 1 + random.nextInt(20);
            case "terms2": case "terms3": case "ifTerms2": return 1 + random.nextInt(big ? 10000 : 300);
            case "termsFor0": return 1 + random.nextInt(big ? 10000 : 300);
            case "termsFor1": return 1 + random.nextInt(big ? 2000000000 : 3000000);
            case "priceFor0": return 1 + random.nextInt(big ? 1000000 : 30000);
            case "layer0": case "taken0": case "loss0": return random.nextInt(4);
            case "layer1": return random.nextInt(big ? 100001 : 1000);
            case "layer2": return random.nextInt(1001);
            case "drawn0": case "feed0": case "feed1": case "feed2": case "feed3": case "feed4": return random.nextInt();
            case "drawn1": return 1 + random.nextInt(big ? 16000 : 3000);
            case "split0": return 2 + random.nextInt(9);
            case "give1": case "sell1": return random.nextInt(4) == 0 ? -1 : random.nextInt(10);
            case "give2": return 1 + random.nextInt(big ? 100000 : 500);
            case "give3": return random.nextInt(200);
            case "sell2": return 1 + random.nextInt(big ? 10000 : 100);
            case "sell3": case "tail1": case "stand3": case "depth1": case "tailFor1": return random.nextInt(150);
            case "take1": return random.nextInt(big ? 50000 : 300);
            case "excess1": return random.nextInt(big ? 100001 : 3000);
            case "stand2": case "costOf1": return 1 + random.nextInt(big ? 5000 : 100);
            case "needs1": return 1 + random.nextInt(300000);
            case "tailPrice1": return 1 + random.nextInt(big ? 5000 : 300);
            case "ifClosed1": return random.nextBoolean() ? random.nextInt(3) : 10 + random.nextInt(10);
            case "strikeFor0": case "soldFor0": return 1 + random.nextInt(big ? 100000 : 3000);
            case "adjusted0": return random.nextInt(1000001);
            case "count0": return random.nextInt(20);
            case "of1": return random.nextInt(11);
            case "bid0": return random.nextInt(8);
            case "standing0": case "withdraw0": return random.nextInt(6);
            case "traded0": return random.nextInt(7);
            case "plan1": case "planFor1": case "book0": return random.nextInt(41);
            case "rule0": case "ifClosed0": return random.nextInt(3);
            case "standing1": case "price0": return random.nextInt(4);
            case "soldFor1": case "loss1": case "price1": return random.nextInt(2);
            case "taken1": case "ifTerms3": return random.nextInt(4);
            case "planFor2": case "tailFor2": case "termsFor2": case "bid1": return random.nextInt(3);
            default: return random.nextInt(10);
        }
    }

    private boolean same(Method m, int[] a) throws Exception {
        Object[] values = new Object[a.length];
        for (int j = 0; j < a.length; j++) {
            if (m.getParameterTypes()[j] == boolean.class) {
                values[j] = a[j] != 0;
            } else {
                values[j] = a[j];
            }
        }
        Object answer = m.invoke(x, values);
        long got = answer instanceof Boolean ? (Boolean) answer ? 1 : 0 : ((Number) answer).longValue();
        long want = model.call(m.getName(), a);
        String line = m.getName() + Arrays.toString(a) + " answered " + got;
        told.add(got == want ? line : line + ", the model says " + want);
        int at = FACE.indexOf(m);
        USED[at]++;
        boolean wellDone = answer instanceof Boolean ? got == 1 : got >= 0;
        GOOD[at] += wellDone ? 1 : 0;
        return got == want && sameState();
    }

    private boolean sameState() {
        for (int h = 0; h < 10; h++) {
            for (int what = 0; what < 11; what++) {
                if (x.of(h, what) != model.s.row[what][h]) {
                    told.add("  of(" + h + ", " + what + ") is " + x.of(h, what) + ", model " + model.s.row[what][h]);
                    return false;
                }
            }
        }
        for (int what = 0; what < 20; what++) {
            long want = model.call("count", new int[] {what});
            if (x.count(what) != want) {
                told.add("  count(" + what + ") is " + x.count(what) + ", model " + want);
                return false;
            }
        }
        return true;
    }
}
