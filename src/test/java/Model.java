import java.math.BigInteger;
import java.util.ArrayList;
import java.util.Comparator;
import java.util.List;

/**
 * The document once more, read anew and as slow as one likes: one by one, by search, by big numbers.
 * The random runs hold NilPaid against it.
 */
final class Model {
    static final long NO = Long.MIN_VALUE;

    static final class Stand {
        int h;
        boolean sells;
        long many;
        int q;

        Stand(int h, boolean sells, long many, int q) {
            this.h = h;
            this.sells = sells;
            this.many = many;
            this.q = q;
        }
    }

    static final class S {
        int stage;
        int rule;
        int n = 1;
        int m = 4;
        int k = 100;
        int p = 200;
        /** of(h, what) is row[what][h]; row 11 is CASH when OPENED. */
        long[][] row = new long[12][10];
        long[][] layer = new long[4][3];
        List<long[]> bids = new ArrayList<>();
        List<Stand> stands = new ArrayList<>();
        long went;
        long money;
        long latest;
        long fresh;
        long fractions;
        long market;
        long left;
        long rump;
        long strike;
        long sold;
        long premium;

        S copy() {
            S c = new S();
            c.stage = stage;
            c.rule = rule;
            c.n = n;
            c.m = m;
            c.k = k;
            c.p = p;
            for (int i = 0; i < 12; i++) {
                c.row[i] = row[i].clone();
            }
            for (int i = 0; i < 4; i++) {
                c.layer[i] = layer[i].clone();
            }
            for (long[] b : bids) {
                c.bids.add(b.clone());
            }
            for (Stand t : stands) {
                c.stands.add(new Stand(t.h, t.sells, t.many, t.q));
            }
            c.went = went;
            c.money = money;
            c.latest = latest;
            c.fresh = fresh;
            c.fractions = fractions;
            c.market = market;
            c.left = left;
            c.rump = rump;
            c.strike = strike;
            c.sold = sold;
            c.premium = premium;
            return c;
        }
    }

    S s = new S();
    List<Integer> tape = new ArrayList<>();
    List<S> kept = new ArrayList<>();

    static boolean in(long x, long a, long b) {
        return a <= x && x <= b;
    }

    static boolean hold(long h) {
        return in(h, 0, 9);
    }

    long sum(int what) {
        long t = 0;
        for (int h = 0; h < 10; h++) {
            t += s.row[what][h];
        }
        return t;
    }

    static long div(long a, long b, long c) {
        return BigInteger.valueOf(a).multiply(BigInteger.valueOf(b)).divide(BigInteger.valueOf(c)).longValueExact();
    }

    long call(String name, int[] a) {
        switch (name) {
            case "feed": return feed(a);
            case "holder": return holder(a[0], a[1], a[2]);
            case "terms": return terms(a);
            case "rule": return rule(a[0]);
            case "layer": return layer(a[0], a[1], a[2]);
            case "drawn": return drawn(a[0], a[1]);
            case "give": return give(a[0], a[1], a[2], a[3]);
            case "split": return split(a[0]);
            case "open": return open();
            case "sell": return sell(a[0], a[1], a[2], a[3]);
            case "take": return take(a[0], a[1]);
            case "excess": return excess(a[0], a[1]);
            case "tail": return tail(a[0], a[1]);
            case "plan": return plan(a[0], a[1]);
            case "stand": return stand(a[0], a[1] != 0, a[2], a[3]);
            case "standing": return standing(a[0], a[1]);
            case "withdraw": return withdraw(a[0]);
            case "traded": return traded(a[0]);
            case "depth": return depth(a[0] != 0, a[1]);
            case "costOf": return costOf(a[0], a[1]);
            case "needs": return needs(a[0], a[1]);
            case "buyable": return buyable(a[0]);
            case "thinned": return thinned(a[0], a[1] != 0);
            case "close": return close();
            case "book": return book(a[0]);
            case "done": return done();
            default: return callMore(name, a);
        }
    }

    private long callMore(String name, int[] a) {
        switch (name) {
            case "of": return hold(a[0]) && in(a[1], 0, 10) ? s.row[a[1]][a[0]] : -1;
            case "count": return count(a[0]);
            case "taken": return taken(a[0], a[1]);
            case "bid": return in(a[0], 0, s.bids.size() - 1) && in(a[1], 0, 2) ? s.bids.get(a[0])[a[1]] : -1;
            case "price": return price(a[0], a[1]);
            case "adjusted": return in(a[0], 0, 1000000) ? div(a[0], top(), bottom() * s.p) : -1;
            case "part": return hold(a[0]) ? part(s.row[0][a[0]]) : -1;
            case "wealth": return hold(a[0]) ? wealth(a[0]) : -1;
            case "gain": return gain(a[0]);
            case "loss": return loss(a[0], a[1]);
            case "anew": return anew();
            case "planFor": return planFor(a[0], a[1], a[2]);
            case "tailFor": return tailFor(a[0], a[1], a[2]);
            case "tailPrice": return tailPrice(a[0], a[1]);
            case "ifClosed": return ifClosed(a[0], a[1]);
            case "strikeFor": return in(a[0], 1, 1000000) ? strike(a[0]) : -1;
            case "soldFor": return soldFor(a[0], a[1]);
            case "ifTerms": return ifTerms(a[0], a[1], a[2], a[3]);
            case "termsFor": return termsFor(a[0], a[1], a[2]);
            case "priceFor": return priceFor(a[0]);
            case "lacks": return lacks(a[0]);
            case "rank": return rank(a[0]);
            case "keep": return keep();
            case "undo": return undo();
            default: throw new IllegalArgumentException(name);
        }
    }

    // ---- told

    private long feed(int[] a) {
        if (tape.size() + 20 > 320) {
            return -1;
        }
        for (int x : a) {
            for (byte b : java.nio.ByteBuffer.allocate(4).putInt(x).array()) {
                tape.add(Byte.toUnsignedInt(b));
            }
        }
        return tape.size();
    }

    private long holder(int h, int shares, int cash) {
        if (!hold(h) || !in(shares, 0, 100000) || !in(cash, 0, 1000000000) || s.stage != 0) {
            return 0;
        }
        s.row[0][h] = shares;
        s.row[1][h] = cash;
        return 1;
    }

    private long terms(int[] a) {
        if (!in(a[0], 1, 20) || !in(a[1], 1, 20) || !in(a[2], 1, 10000) || !in(a[3], 1, 10000) || s.stage != 0) {
            return 0;
        }
        s.n = a[0];
        s.m = a[1];
        s.k = a[2];
        s.p = a[3];
        return 1;
    }

    private long rule(int r) {
        if (!in(r, 0, 2)) {
            return -1;
        }
        int was = s.rule;
        s.rule = r;
        return was;
    }

    private long layer(int j, int size, int fee) {
        if (!in(j, 0, 3) || !in(size, 0, 100000) || !in(fee, 0, 1000)) {
            return -1;
        }
        if (s.stage == 3) {
            return -9;
        }
        long was = s.layer[j][0];
        s.layer[j] = new long[] {size, fee, 0};
        return was;
    }

    private long drawn(int seed, int most) {
        if (!in(most, 1, 16000)) {
            return -1;
        }
        if (s.stage != 0) {
            return -9;
        }
        long x = Math.floorMod((long) seed, 65536L);
        for (int i = 0; i < 20; i++) {
            x = (25173 * x + 13849) % 65536;
            s.row[i % 2][i / 2] = i % 2 == 0 ? x / 4 % most : x / 4 % 16000 * 1000;
        }
        return sum(0);
    }

    private long give(int a, int b, int k, int q) {
        if (!hold(a) || !hold(b) || a == b || !in(k, 1, 100000) || !in(q, 0, 10000)) {
            return -1;
        }
        if (s.stage == 1 || s.stage == 2) {
            return -9;
        }
        long pays = (long) k * q;
        if (s.row[0][a] < k) {
            return -2;
        }
        if (s.row[1][b] < pays) {
            return -3;
        }
        if (s.row[1][a] + pays > 1000000000) {
            return -4;
        }
        if (s.stage == 0 && s.row[0][b] + k > 100000) {
            return -5;
        }
        s.row[0][a] -= k;
        s.row[0][b] += k;
        s.row[1][a] += pays;
        s.row[1][b] -= pays;
        return s.row[0][a];
    }

    private long split(int x) {
        if (!in(x, 2, 10)) {
            return -1;
        }
        if (s.stage != 0) {
            return -9;
        }
        for (long shares : s.row[0]) {
            if (shares * x > 100000) {
                return -2;
            }
        }
        for (int h = 0; h < 10; h++) {
            s.row[0][h] *= x;
        }
        s.p = Math.max(1, s.p / x);
        s.k = Math.max(1, s.k / x);
        return sum(0);
    }

    // ---- nil paid

    private long open() {
        if (s.stage != 0) {
            return -9;
        }
        long fresh = s.n * sum(0) / s.m;
        if (fresh == 0) {
            return -2;
        }
        s.fresh = fresh;
        for (int h = 0; h < 10; h++) {
            s.row[2][h] = s.n * s.row[0][h] / s.m;
            s.row[5][h] = s.row[0][h];
            s.row[11][h] = s.row[1][h];
        }
        s.fractions = fresh - sum(2);
        s.stage = 1;
        return fresh;
    }

    private void over(int from, int to, long k, long q) {
        s.row[2][from] -= k;
        s.row[1][from] += k * q;
        s.row[3][from] = Math.min(s.row[3][from], s.row[2][from]);
        if (to < 0) {
            s.market += k;
        } else {
            s.row[2][to] += k;
            s.row[1][to] -= k * q;
        }
    }

    private long sell(int a, int b, int k, int q) {
        if (!hold(a) || !in(b, -1, 9) || a == b || !in(k, 1, 1000000) || !in(q, 0, 10000)) {
            return -1;
        }
        if (s.stage != 1) {
            return -9;
        }
        if (s.row[2][a] < k) {
            return -2;
        }
        if (b >= 0 && s.row[1][b] < (long) k * q) {
            return -3;
        }
        if (s.row[1][a] + (long) k * q > 1000000000) {
            return -4;
        }
        over(a, b, k, q);
        return s.row[2][a];
    }

    private long take(int h, long k) {
        if (!hold(h) || k < 0) {
            return -1;
        }
        if (s.stage != 1) {
            return -9;
        }
        if (k > s.row[2][h]) {
            return -2;
        }
        long was = s.row[3][h];
        s.row[3][h] = k;
        return was;
    }

    private long excess(int h, int k) {
        if (!hold(h) || !in(k, 0, 100000)) {
            return -1;
        }
        if (s.stage != 1) {
            return -9;
        }
        long was = s.row[4][h];
        s.row[4][h] = k;
        return was;
    }

    /** By halving: the fewest that pay for the others. */
    private long tailSells(long rights, long q) {
        long low = 0;
        long high = rights;
        while (low < high) {
            long mid = (low + high) / 2;
            if (mid * q >= (rights - mid) * s.k) {
                high = mid;
            } else {
                low = mid + 1;
            }
        }
        return low;
    }

    private long tail(int h, int q) {
        if (!hold(h) || !in(q, 1, 10000)) {
            return -1;
        }
        if (s.stage != 1) {
            return -9;
        }
        if (s.row[2][h] == 0) {
            return -2;
        }
        long sells = tailSells(s.row[2][h], q);
        if (s.row[1][h] + sells * q > 1000000000) {
            return -4;
        }
        over(h, -1, sells, q);
        s.row[3][h] = s.row[2][h];
        return sells;
    }

    /** The text as tokens: words, numbers, single bytes; each with its place; the end last. */
    private List<String[]> tokens(int n) {
        StringBuilder text = new StringBuilder();
        for (int i = 0; i < n; i++) {
            text.append((char) (int) tape.get(i));
        }
        List<String[]> all = new ArrayList<>();
        java.util.regex.Matcher m = java.util.regex.Pattern.compile("[a-z]+|[0-9]+|[^a-z0-9 ]", 32).matcher(text);
        while (m.find()) {
            all.add(new String[] {m.group(), "" + m.start()});
        }
        all.add(new String[] {"", "" + n});
        return all;
    }

    private static final String[] FORMS = {"take N", "take all", "excess N", "lapse", "tail N", "sell N at N",
        "buy N from N at N"};

    /** The orders as numbers with their form first; or a fault, a row of one. */
    private List<long[]> readPlan(int n) {
        List<String[]> all = tokens(n);
        List<long[]> orders = new ArrayList<>();
        int at = 0;
        while (true) {
            long[] order = null;
            int furthest = -1;
            for (int f = 0; f < FORMS.length && order == null; f++) {
                String[] form = FORMS[f].split(" ");
                long[] found = new long[5];
                found[0] = f;
                int filled = 1;
                int i = 0;
                while (i < form.length) {
                    String token = all.get(Math.min(at + i, all.size() - 1))[0];
                    int place = Integer.parseInt(all.get(Math.min(at + i, all.size() - 1))[1]);
                    boolean number = token.matches("[0-9]+");
                    if (form[i].equals("N") && number && token.length() > 6) {
                        furthest = Math.max(furthest, place + 6);
                        break;
                    }
                    if (form[i].equals("N") ? !number : !form[i].equals(token)) {
                        furthest = Math.max(furthest, place);
                        break;
                    }
                    if (number) {
                        found[filled++] = Long.parseLong(token);
                    }
                    i++;
                }
                if (i == form.length) {
                    order = found;
                    at += i;
                }
            }
            if (order == null) {
                return List.of(new long[] {-1000 - furthest});
            }
            orders.add(order);
            if (all.get(at)[0].isEmpty()) {
                return orders;
            }
            if (!all.get(at)[0].equals(";")) {
                return List.of(new long[] {-1000 - Integer.parseInt(all.get(at)[1])});
            }
            at++;
        }
    }

    private boolean isPlan(int h, int n) {
        return hold(h) && in(n, 1, 80) && n <= tape.size();
    }

    private long plan(int h, int n) {
        if (!isPlan(h, n)) {
            return -1;
        }
        if (s.stage != 1) {
            return -9;
        }
        List<long[]> orders = readPlan(n);
        tape.clear();
        if (orders.get(0).length == 1) {
            return orders.get(0)[0];
        }
        int done = 0;
        for (long[] o : orders) {
            long answer;
            switch ((int) o[0]) {
                case 0: answer = take(h, o[1]); break;
                case 1: answer = take(h, s.row[2][h]); break;
                case 2: answer = excess(h, (int) o[1]); break;
                case 3: s.row[3][h] = 0; s.row[4][h] = 0; answer = 0; break;
                case 4: answer = tail(h, (int) o[1]); break;
                case 5: answer = sell(h, -1, (int) o[1], (int) o[2]); break;
                default: answer = sell((int) o[2], h, (int) o[1], (int) o[3]); break;
            }
            if (answer < 0) {
                break;
            }
            done++;
        }
        return done;
    }

    private long planFor(int h, int n, int what) {
        if (!isPlan(h, n) || !in(what, 0, 2)) {
            return -1;
        }
        S ahead = s.copy();
        long told = plan(h, n);
        long answer = told < 0 || what == 0 ? told : s.row[3 - what][h];
        s = ahead;
        return answer;
    }

    // ---- rights that stand

    private List<Stand> others(int h, boolean sells) {
        List<Stand> some = new ArrayList<>();
        for (Stand t : s.stands) {
            if (t.h != h && t.sells == sells) {
                some.add(t);
            }
        }
        some.sort(Comparator.comparingInt(t -> sells ? t.q : -t.q));
        return some;
    }

    private long stand(int h, boolean sells, int many, int q) {
        if (!hold(h) || !in(many, 1, 1000000) || !in(q, 1, 10000)) {
            return -1;
        }
        if (s.stage != 1) {
            return -9;
        }
        if (sells && s.row[2][h] < many) {
            return -2;
        }
        if (!sells && s.row[1][h] < (long) many * q) {
            return -3;
        }
        long still = many;
        for (Stand t : others(h, !sells)) {
            if (sells ? t.q < q : t.q > q) {
                continue;
            }
            int from = sells ? h : t.h;
            int to = sells ? t.h : h;
            while (still > 0 && t.many > 0 && s.row[2][from] > 0 && s.row[1][to] >= t.q
                && s.row[1][from] + t.q <= 1000000000) {
                over(from, to, 1, t.q);
                still--;
                t.many--;
                s.went++;
                s.money += t.q;
                s.latest = t.q;
            }
        }
        s.stands.removeIf(t -> t.many == 0);
        if (still > 0 && s.stands.size() < 12) {
            s.stands.add(new Stand(h, sells, still, q));
        }
        return many - still;
    }

    private long standing(int i, int what) {
        if (!in(i, 0, s.stands.size() - 1) || !in(what, 0, 3)) {
            return -1;
        }
        Stand t = s.stands.get(i);
        return new long[] {t.h, t.sells ? 1 : 0, t.many, t.q}[what];
    }

    private long withdraw(int i) {
        if (!in(i, 0, s.stands.size() - 1)) {
            return 0;
        }
        s.stands.remove(i);
        return 1;
    }

    private long traded(int what) {
        List<Stand> sales = others(-1, true);
        List<Stand> buys = others(-1, false);
        switch (what) {
            case 0: return s.went;
            case 1: return s.money;
            case 2: return s.latest;
            case 3: return s.went == 0 ? 0 : s.money / s.went;
            case 4: return sales.isEmpty() ? 0 : sales.get(0).q;
            case 5: return buys.isEmpty() ? 0 : buys.get(0).q;
            case 6: return s.stands.size();
            default: return -1;
        }
    }

    private long depth(boolean sales, int q) {
        if (!in(q, 1, 10000)) {
            return -1;
        }
        return s.stands.stream().filter(t -> t.sells == sales && (sales ? t.q <= q : t.q >= q))
            .mapToLong(t -> t.many).sum();
    }

    private long costOf(int h, int many) {
        if (!hold(h) || !in(many, 1, 1000000)) {
            return -1;
        }
        if (s.stage != 1) {
            return -9;
        }
        long still = many;
        long cost = 0;
        for (Stand t : others(h, true)) {
            long some = Math.min(still, t.many);
            still -= some;
            cost += some * t.q;
        }
        return still > 0 ? -2 : cost;
    }

    private long needs(int h, int millionths) {
        if (!hold(h) || !in(millionths, 1, 1000000)) {
            return -1;
        }
        if (s.stage != 1) {
            return -9;
        }
        long low = 0;
        long high = s.row[2][h];
        if (part(s.row[0][h] + high) < millionths) {
            return -2;
        }
        while (low < high) {
            long mid = (low + high) / 2;
            if (part(s.row[0][h] + mid) >= millionths) {
                high = mid;
            } else {
                low = mid + 1;
            }
        }
        return low;
    }

    private long buyable(int h) {
        if (!hold(h)) {
            return -1;
        }
        if (s.stage != 1) {
            return -9;
        }
        long cash = s.row[1][h];
        long many = 0;
        for (Stand t : others(h, true)) {
            for (long i = 0; i < t.many; i++) {
                if (cash < t.q + s.k) {
                    return many;
                }
                cash -= t.q + s.k;
                many++;
            }
        }
        return many;
    }

    private long thinned(int h, boolean takes) {
        if (!hold(h)) {
            return -1;
        }
        return s.stage != 1 ? -9 : part(s.row[0][h] + (takes ? s.row[2][h] : 0));
    }

    // ---- closed, done

    private long close() {
        if (s.stage != 1) {
            return -9;
        }
        closeBy(s.rule);
        return s.rump;
    }

    private void closeBy(int rule) {
        s.left = s.fractions;
        for (int h = 0; h < 10; h++) {
            long up = Math.min(s.row[3][h], Math.min(s.row[2][h], s.row[1][h] / s.k));
            s.row[6][h] = up;
            s.row[7][h] = s.row[2][h] - up;
            s.row[0][h] += up;
            s.row[1][h] -= up * s.k;
            s.left += s.row[7][h];
            s.row[8][h] = Math.min(s.row[4][h], s.row[1][h] / s.k);
        }
        long asked = sum(8);
        long held = 0;
        for (int h = 0; h < 10; h++) {
            held += s.row[8][h] > 0 ? s.row[5][h] : 0;
        }
        for (int h = 0; h < 10; h++) {
            long ask = s.row[8][h];
            if (asked <= s.left) {
                s.row[9][h] = ask;
            } else if (rule == 0) {
                s.row[9][h] = div(s.left, ask, asked);
            } else if (rule == 1) {
                s.row[9][h] = held == 0 ? 0 : Math.min(ask, div(s.left, s.row[5][h], held));
            }
        }
        long rest = asked <= s.left ? 0 : s.left - sum(9);
        while (rest > 0) {
            for (int h = 0; h < 10 && rest > 0; h++) {
                if (s.row[9][h] < s.row[8][h]) {
                    s.row[9][h]++;
                    rest--;
                }
            }
        }
        for (int h = 0; h < 10; h++) {
            s.row[0][h] += s.row[9][h];
            s.row[1][h] -= s.row[9][h] * s.k;
        }
        s.rump = s.left - sum(9);
        s.stands.clear();
        s.stage = 2;
    }

    private long book(int n) {
        if (!in(n, 1, 160) || n > tape.size()) {
            return -1;
        }
        if (s.stage == 3) {
            return -9;
        }
        List<long[]> bids = new ArrayList<>();
        long fault = readBook(n, bids);
        tape.clear();
        if (fault != 0) {
            return fault;
        }
        s.bids = bids;
        return bids.size();
    }

    /** Byte by byte, a small machine: 0 ahead of a price, 1 in it, 2 behind it, 3 ahead of a number, 4 in it, 5 behind. */
    private long readBook(int n, List<long[]> bids) {
        int mode = 0;
        int first = 0;
        String digits = "";
        long price = 0;
        for (int i = 0; i <= n; i++) {
            int b = i < n ? tape.get(i) : -1;
            boolean digit = b >= '0' && b <= '9';
            if ((mode == 1 || mode == 4) && digit) {
                if (digits.length() == 6) {
                    return -1000 - i;
                }
                digits += (char) b;
                continue;
            }
            if (mode == 1 || mode == 4) {
                long value = Long.parseLong(digits);
                if (!in(value, 1, mode == 1 ? 10000 : 100000)) {
                    return -2000 - first;
                }
                if (mode == 1) {
                    price = value;
                } else {
                    bids.add(new long[] {price, value, 0});
                }
                mode++;
            }
            if (b == ' ') {
                continue;
            }
            if ((mode == 0 || mode == 3) && digit) {
                if (mode == 0 && bids.size() == 20) {
                    return -3000 - i;
                }
                first = i;
                digits = "" + (char) b;
                mode++;
            } else if (mode == 2 && b == 'x') {
                mode = 3;
            } else if (mode == 5 && b == ';') {
                mode = 0;
            } else if (mode != 5 || b != -1) {
                return -1000 - i;
            }
        }
        return 0;
    }

    private long wanted(long q) {
        return s.bids.stream().filter(b -> b[0] >= q).mapToLong(b -> b[1]).sum();
    }

    private long strike(long rump) {
        if (rump == 0) {
            return 0;
        }
        List<Long> prices = new ArrayList<>();
        for (long[] b : s.bids) {
            if (b[0] >= s.k) {
                prices.add(b[0]);
            }
        }
        prices.sort(Comparator.reverseOrder());
        for (long q : prices) {
            if (wanted(q) >= rump) {
                return q;
            }
        }
        return prices.isEmpty() ? 0 : prices.get(prices.size() - 1);
    }

    private long soldBy(long rump) {
        long strike = strike(rump);
        return strike == 0 ? 0 : Math.min(rump, wanted(strike));
    }

    private long soldFor(int rump, int sort) {
        if (!in(rump, 1, 1000000) || !in(sort, 0, 1)) {
            return -1;
        }
        return sort == 0 ? soldBy(rump) : (strike(rump) - s.k) * soldBy(rump);
    }

    private long done() {
        if (s.stage != 2) {
            return -9;
        }
        s.strike = strike(s.rump);
        s.sold = soldBy(s.rump);
        s.premium = s.strike == 0 ? 0 : (s.strike - s.k) * s.sold;
        long rest = s.sold;
        for (int pass = 0; pass < 2 && s.strike > 0; pass++) {
            for (long[] b : s.bids) {
                if (pass == 0 ? b[0] > s.strike : b[0] == s.strike) {
                    b[2] = Math.min(b[1], rest);
                    rest -= b[2];
                }
            }
        }
        for (int h = 0; h < 10; h++) {
            s.row[10][h] = s.left == 0 ? 0 : div(s.premium, s.row[7][h], s.left);
            s.row[1][h] += s.row[10][h];
        }
        rest = s.rump - s.sold;
        for (long[] l : s.layer) {
            l[2] = Math.min(l[0], rest);
            rest -= l[2];
        }
        s.stage = 3;
        return s.sold;
    }

    // ---- looked at

    private long count(int what) {
        long layers = 0;
        long fees = 0;
        for (int j = 0; j < 4; j++) {
            layers += s.layer[j][2];
            fees += taken(j, 3);
        }
        long up = sum(6) + s.market + sum(9) + s.sold + layers;
        long raised = up * s.k - fees + s.premium - sum(10);
        long[] all = {s.stage, sum(0), s.fresh, s.fractions, s.market, s.left, sum(8), sum(9), s.rump, s.strike, s.sold,
            s.premium, layers, s.stage == 3 ? s.rump - s.sold - layers : 0, fees, s.stage == 3 ? raised : 0,
            s.bids.size(), s.rule, tape.size(), kept.size()};
        return in(what, 0, 19) ? all[what] : -1;
    }

    private long taken(int j, int what) {
        if (!in(j, 0, 3) || !in(what, 0, 3)) {
            return -1;
        }
        return what < 3 ? s.layer[j][what] : s.layer[j][0] * s.k * s.layer[j][1] / 10000;
    }

    private long top() {
        return (long) s.m * s.p + (long) s.n * s.k;
    }

    private long bottom() {
        return s.m + s.n;
    }

    private static long lowest(long top, long bottom, int what) {
        long g = BigInteger.valueOf(top).gcd(BigInteger.valueOf(bottom)).longValueExact();
        return what == 0 ? top / g : bottom / g;
    }

    private long price(int sort, int what) {
        if (!in(sort, 0, 3) || !in(what, 0, 1)) {
            return NO;
        }
        long[] tops = {top(), top() - s.k * bottom(), s.p * bottom() - top(), top()};
        return lowest(tops[sort], sort == 3 ? bottom() * s.p : bottom(), what);
    }

    private long part(long shares) {
        long all = s.stage == 0 ? sum(0) : sum(5) + s.fresh;
        return all == 0 ? 0 : div(shares, 1000000, all);
    }

    private long wealth(int h) {
        long w = s.row[1][h];
        if (s.stage == 0) {
            return w + s.row[0][h] * s.p;
        }
        w += div(s.row[0][h], top(), bottom());
        if (s.stage == 1 && s.p > s.k) {
            w += div(s.row[2][h], (long) s.m * (s.p - s.k), bottom());
        }
        return w;
    }

    private long gain(int h) {
        if (!hold(h)) {
            return NO;
        }
        return s.stage == 0 ? 0 : wealth(h) - s.row[11][h] - s.row[5][h] * s.p;
    }

    private long loss(int j, int what) {
        if (!in(j, 0, 3) || !in(what, 0, 1)) {
            return NO;
        }
        if (s.stage != 3) {
            return -9;
        }
        long many = s.layer[j][2];
        return many * s.k - div(many, top(), bottom()) - (what == 1 ? taken(j, 3) : 0);
    }

    private long anew() {
        if (s.stage != 3) {
            return -9;
        }
        S f = new S();
        for (int h = 0; h < 10; h++) {
            f.row[0][h] = Math.min(100000, s.row[0][h]);
            f.row[1][h] = Math.min(1000000000, s.row[1][h]);
        }
        f.n = s.n;
        f.m = s.m;
        f.rule = s.rule;
        f.p = (int) Math.max(1, top() / bottom());
        f.k = Math.min(s.k, f.p);
        s = f;
        tape.clear();
        kept.clear();
        return s.p;
    }

    // ---- what would be

    private long tailFor(int h, int q, int what) {
        if (!hold(h) || !in(q, 1, 10000) || !in(what, 0, 2)) {
            return -1;
        }
        if (s.stage != 1) {
            return -9;
        }
        long rights = s.row[2][h];
        if (rights == 0) {
            return -2;
        }
        long sells = tailSells(rights, q);
        return new long[] {sells, rights - sells, sells * q - (rights - sells) * s.k}[what];
    }

    private long tailPrice(int h, int k) {
        if (!hold(h) || !in(k, 1, 1000000)) {
            return -1;
        }
        if (s.stage != 1) {
            return -9;
        }
        long rights = s.row[2][h];
        for (int q = 1; q <= 10000; q++) {
            if (rights - tailSells(rights, q) >= k) {
                return q;
            }
        }
        return -2;
    }

    private long ifClosed(int r, int what) {
        if (!in(r, 0, 2) || !(in(what, 0, 2) || in(what, 10, 19))) {
            return -1;
        }
        if (s.stage != 1) {
            return -9;
        }
        S ahead = s.copy();
        closeBy(r);
        long answer = what >= 10 ? s.row[9][what - 10] : new long[] {s.left, sum(9), s.rump}[what];
        s = ahead;
        return answer;
    }

    private long ifTerms(int n, int m, int k, int what) {
        if (!in(n, 1, 20) || !in(m, 1, 20) || !in(k, 1, 10000) || !in(what, 0, 3)) {
            return -1;
        }
        if (what < 2) {
            return lowest((long) m * s.p + (long) n * k, m + n, what);
        }
        return n * sum(0) / m * (what == 3 ? k : 1);
    }

    private long termsFor(int k, int money, int what) {
        if (!in(k, 1, 10000) || !in(money, 1, 2000000000) || !in(what, 0, 2)) {
            return -1;
        }
        long[] best = null;
        for (int m = 20; m >= 1; m--) {
            for (int n = 20; n >= 1; n--) {
                long fresh = n * sum(0) / m;
                if (fresh * k < money) {
                    continue;
                }
                if (best != null) {
                    int c = Long.compare(fresh, best[2]);
                    c = c != 0 ? c : Double.compare((double) n / m, (double) best[0] / best[1]);
                    c = c != 0 ? c : Long.compare(m, best[1]);
                    if (c > 0) {
                        continue;
                    }
                }
                best = new long[] {n, m, fresh};
            }
        }
        return best == null ? -2 : best[what];
    }

    private long priceFor(int hundredths) {
        if (!in(hundredths, 1, 1000000)) {
            return -1;
        }
        for (int k = 1; k <= 10000; k++) {
            if (100L * ((long) s.m * s.p + (long) s.n * k) >= hundredths * bottom()) {
                return k;
            }
        }
        return -2;
    }

    private long lacks(int h) {
        if (!hold(h)) {
            return -1;
        }
        return s.stage != 1 ? -9 : Math.max(0, s.row[2][h] * s.k - s.row[1][h]);
    }

    private long rank(int k) {
        List<Integer> all = new ArrayList<>(List.of(0, 1, 2, 3, 4, 5, 6, 7, 8, 9));
        all.sort(Comparator.comparingLong(h -> -s.row[0][h]));
        return in(k, 0, 9) ? all.get(k) : -1;
    }

    // ---- kept

    private long keep() {
        if (kept.size() == 8) {
            return -1;
        }
        kept.add(s.copy());
        return kept.size();
    }

    private long undo() {
        if (kept.isEmpty()) {
            return -1;
        }
        s = kept.remove(kept.size() - 1);
        return kept.size();
    }
}
