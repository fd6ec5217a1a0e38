/** Promises 1 to 9: what is told BEFORE. */
public final class ToldTest {
    private static final Due t = new Due();

    public static void main(String[] args) {
        promise1();
        promise2();
        promise3();
        promise4();
        promise5();
        promise6();
        promise7();
        promise8();
        promise9();
        t.end();
    }

    private static void promise1() {
        t.about("1 new");
        NilPaid x = new NilPaid();
        for (int what = 0; what < 20; what++) {
            t.due("count(" + what + ")", x.count(what), 0);
        }
        for (int h = 0; h < 10; h++) {
            t.row("of(" + h + ")", Due.holder(x, h), 0, 0, 0, 0, 0, 0, 0, 0, 0, 0, 0);
        }
        for (int j = 0; j < 4; j++) {
            t.due("size", x.taken(j, 0), 0);
            t.due("fee", x.taken(j, 1), 0);
        }
        t.due("n, m, K, P make T", x.price(0, 0), 180);
        t.due("worth", x.price(1, 0), 80);
        t.due("bid(0, 0)", x.bid(0, 0), NilPaid.NONE);
        t.due("standing(0, 0)", x.standing(0, 0), NilPaid.NONE);
        t.due("undo()", x.undo(), NilPaid.NONE);
    }

    private static void promise2() {
        t.about("2 feed");
        NilPaid x = new NilPaid();
        for (int i = 1; i <= 16; i++) {
            t.due("feed", x.feed(0, 0, 0, 0, 0), 20 * i);
        }
        t.due("feed beyond 320", x.feed(0, 0, 0, 0, 0), NilPaid.NONE);
        t.due("count(18)", x.count(18), 320);
        NilPaid y = new NilPaid();
        // "5x7;" "6x8;" "7x9;" "8x1;" "9x22": the highest byte first, in all five
        y.feed(0x3578373b, 0x3678383b, 0x3778393b, 0x3878313b, 0x39783232);
        t.due("book(20)", y.book(20), 5);
        t.due("price 0", y.bid(0, 0), 5);
        t.due("number 0", y.bid(0, 1), 7);
        t.due("number 1", y.bid(1, 1), 8);
        t.due("number 2", y.bid(2, 1), 9);
        t.due("number 3", y.bid(3, 1), 1);
        t.due("number 4", y.bid(4, 1), 22);
        t.due("feed behind an empty tape", y.feed(-1, -1, -1, -1, -1), 20);
        t.due("a byte of 255 can't stand", y.book(1), -1000);
        Due.feed(y, "1x1;1x1;1x1;1x1;1x1;");
        Due.feed(y, "1x2");
        t.due("second feed comes behind", y.book(23), 6);
        t.due("number 5", y.bid(5, 1), 2);
    }

    private static void promise3() {
        t.about("3 holder");
        NilPaid x = new NilPaid();
        t.due("0 to 100000, 1000000000", x.holder(9, 100000, 1000000000), true);
        t.due("shares", x.of(9, 0), 100000);
        t.due("cash", x.of(9, 1), 1000000000);
        t.due("zeros", x.holder(0, 0, 0), true);
        t.due("no holder -1", x.holder(-1, 1, 1), false);
        t.due("no holder 10", x.holder(10, 1, 1), false);
        t.due("shares below", x.holder(0, -1, 1), false);
        t.due("shares above", x.holder(0, 100001, 1), false);
        t.due("cash below", x.holder(0, 1, -1), false);
        t.due("cash above", x.holder(0, 1, 1000000001), false);
        t.row("unchanged", Due.holder(x, 0), 0, 0, 0, 0, 0, 0, 0, 0, 0, 0, 0);
        x.open();
        t.due("not BEFORE", x.holder(0, 1, 1), false);
        t.due("not BEFORE: unchanged", x.of(0, 0), 0);
        t.due("DONE", Due.done().holder(0, 1, 1), false);
    }

    private static void promise4() {
        t.about("4 terms");
        NilPaid x = new NilPaid();
        t.due("least", x.terms(1, 1, 1, 1), true);
        t.due("most", x.terms(20, 20, 10000, 10000), true);
        t.due("T", x.price(0, 0), 10000);
        t.due("3 for 7 at 50, 150", x.terms(3, 7, 50, 150), true);
        t.due("T top", x.price(0, 0), 120);
        t.due("T bottom", x.price(0, 1), 1);
        int[][] none = {{0, 1, 1, 1}, {21, 1, 1, 1}, {1, 0, 1, 1}, {1, 21, 1, 1}, {1, 1, 0, 1}, {1, 1, 10001, 1},
            {1, 1, 1, 0}, {1, 1, 1, 10001}};
        for (int[] a : none) {
            t.due("no such " + java.util.Arrays.toString(a), x.terms(a[0], a[1], a[2], a[3]), false);
        }
        t.due("T unchanged", x.price(0, 0), 120);
        x.holder(0, 70, 0);
        t.due("NEW by 3 for 7", x.open(), 30);
        t.due("not BEFORE", x.terms(1, 1, 1, 1), false);
        t.due("T unchanged", x.price(0, 0), 120);
    }

    private static void promise5() {
        t.about("5 rule");
        NilPaid x = new NilPaid();
        t.due("rule(2)", x.rule(2), 0);
        t.due("rule(1)", x.rule(1), 2);
        t.due("rule(-1)", x.rule(-1), NilPaid.NONE);
        t.due("rule(3)", x.rule(3), NilPaid.NONE);
        t.due("count(17)", x.count(17), 1);
        NilPaid y = Due.opened();
        t.due("NIL PAID", y.rule(2), 0);
        y.close();
        t.due("CLOSED", y.rule(1), 2);
        y.done();
        t.due("DONE", y.rule(0), 1);
    }

    private static void promise6() {
        t.about("6 layer");
        NilPaid x = Due.opened();
        t.due("layer(3, 100000, 1000)", x.layer(3, 100000, 1000), 0);
        t.due("layer(3, 0, 0)", x.layer(3, 0, 0), 100000);
        t.due("layer(3, 7, 0)", x.layer(3, 7, 0), 0);
        int[][] none = {{-1, 1, 1}, {4, 1, 1}, {0, -1, 1}, {0, 100001, 1}, {0, 1, -1}, {0, 1, 1001}};
        for (int[] a : none) {
            t.due("no such " + java.util.Arrays.toString(a), x.layer(a[0], a[1], a[2]), NilPaid.NONE);
        }
        t.due("size", x.taken(3, 0), 7);
        x.close();
        t.due("CLOSED", x.layer(3, 8, 10), 7);
        x.done();
        t.due("DONE", x.layer(3, 9, 1), -9);
        t.due("DONE, no such one", x.layer(4, 9, 1), NilPaid.NONE);
        t.due("size", x.taken(3, 0), 8);
        t.due("fee", x.taken(3, 1), 10);
    }

    private static void promise7() {
        t.about("7 drawn");
        NilPaid x = new NilPaid();
        long sum = 0;
        int seed = 0x7fff1234;
        long state = 0x1234;
        long[] shares = new long[10];
        long[] cash = new long[10];
        for (int h = 0; h < 10; h++) {
            state = (25173 * state + 13849) % 65536;
            shares[h] = state / 4 % 777;
            state = (25173 * state + 13849) % 65536;
            cash[h] = state / 4 % 16000 * 1000;
            sum += shares[h];
        }
        t.due("drawn", x.drawn(seed, 777), sum);
        t.row("shares", Due.all(x, 0), shares);
        t.row("cash", Due.all(x, 1), cash);
        manySeeds();
        // by hand: 25173 * 1 + 13849 = 39022, through 4 is 9755
        x.drawn(1, 16000);
        t.due("first draw of seed 1", x.of(0, 0), 9755);
        x.drawn(-65535, 16000);
        t.due("the lowest 16 bits alone", x.of(0, 0), 9755);
        t.due("most 1", x.drawn(5, 1), 0);
        t.due("most 0", x.drawn(5, 0), NilPaid.NONE);
        t.due("most 16001", x.drawn(5, 16001), NilPaid.NONE);
        x.holder(0, 4, 0);
        x.open();
        t.due("not BEFORE", x.drawn(5, 5), -9);
        t.due("not BEFORE, no such one", x.drawn(5, 0), NilPaid.NONE);
    }

    /** Many, so that some draws are above 16000. */
    private static void manySeeds() {
        for (int seed = 0; seed < 300; seed += 7) {
            NilPaid x = new NilPaid();
            x.drawn(seed, 16000);
            long state = seed;
            for (int h = 0; h < 10; h++) {
                state = (25173 * state + 13849) % 65536;
                t.due("shares", x.of(h, 0), state / 4 % 16000);
                state = (25173 * state + 13849) % 65536;
                t.due("cash", x.of(h, 1), state / 4 % 16000 * 1000);
            }
        }
    }

    private static void promise8() {
        t.about("8 give");
        NilPaid x = new NilPaid();
        x.holder(0, 100, 999999000);
        x.holder(1, 99950, 5000);
        int[][] none = {{-1, 1, 1, 1}, {10, 1, 1, 1}, {0, -1, 1, 1}, {0, 10, 1, 1}, {0, 0, 1, 1}, {0, 1, 0, 1},
            {0, 1, 100001, 1}, {0, 1, 1, -1}, {0, 1, 1, 10001}};
        for (int[] a : none) {
            t.due("no such " + java.util.Arrays.toString(a), x.give(a[0], a[1], a[2], a[3]), NilPaid.NONE);
        }
        t.due("a has not so many", x.give(0, 1, 101, 10000), -2);
        t.due("b has not the cash", x.give(0, 1, 51, 99), -3);
        t.due("cash of a would be above", x.give(0, 1, 51, 20), -4);
        t.due("shares of b would be above", x.give(0, 1, 51, 19), -5);
        t.due("just so", x.give(0, 1, 50, 20), 50);
        t.row("shares", Due.all(x, 0), 50, 100000, 0, 0, 0, 0, 0, 0, 0, 0);
        t.row("cash", Due.all(x, 1), 1000000000, 4000, 0, 0, 0, 0, 0, 0, 0, 0);
        t.due("for nothing", x.give(0, 9, 50, 0), 0);
        x.open();
        t.due("NIL PAID", x.give(1, 0, 1, 1), -9);
        t.due("NIL PAID, no such ones", x.give(1, 1, 1, 1), NilPaid.NONE);
        x.close();
        t.due("CLOSED", x.give(1, 0, 1, 1), -9);
        x.done();
        t.due("DONE: no limit of shares", x.give(9, 1, 50, 1), 0);
        t.due("DONE: shares", x.of(1, 0), 100050);
        t.due("DONE: -2", x.give(9, 1, 1, 1), -2);
        t.due("DONE: -3", x.give(1, 9, 100, 10000), -3);
    }

    private static void promise9() {
        t.about("9 split");
        NilPaid x = new NilPaid();
        x.terms(1, 1, 7, 205);
        x.holder(0, 50000, 3);
        x.holder(7, 11, 0);
        t.due("x 1", x.split(1), NilPaid.NONE);
        t.due("x 11", x.split(11), NilPaid.NONE);
        t.due("too many", x.split(3), -2);
        t.row("unchanged", Due.all(x, 0), 50000, 0, 0, 0, 0, 0, 0, 11, 0, 0);
        t.due("split(2)", x.split(2), 100022);
        t.row("shares", Due.all(x, 0), 100000, 0, 0, 0, 0, 0, 0, 22, 0, 0);
        t.due("cash stays", x.of(0, 1), 3);
        t.due("P 102, K 3: T top", x.price(0, 0), 105);
        t.due("T bottom", x.price(0, 1), 2);
        x.holder(0, 10, 0);
        t.due("split(10)", x.split(10), 320);
        t.due("P 10, K 1: worth top", x.price(1, 0), 9);
        x.holder(0, 10, 0);
        x.holder(7, 0, 0);
        x.split(10);
        t.due("P 1, K 1 at least", x.price(0, 0), 1);
        t.due("P is not 0", x.wealth(0), 100);
        x.terms(1, 1, 9, 9);
        x.split(10);
        t.due("P 9 becomes 1", x.wealth(0), 1000);
        x.open();
        t.due("not BEFORE", x.split(2), -9);
        t.due("not BEFORE, no such x", x.split(11), NilPaid.NONE);
    }
}
