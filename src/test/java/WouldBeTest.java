/** Promises 40 to 49: what would be. */
public final class WouldBeTest {
    private static final Due t = new Due();

    public static void main(String[] args) {
        promise40();
        promise41();
        promise42();
        promise43And44();
        promise45();
        promise46();
        promise47();
        promise48();
        promise49();
        t.end();
    }

    private static void promise40() {
        t.about("40 tailFor");
        NilPaid x = Due.small();
        x.holder(4, 8, 1000000000);
        t.due("BEFORE", x.tailFor(1, 80, 0), -9);
        x.open();
        long[] ahead = Due.everything(x);
        t.due("sold", x.tailFor(1, 80, 0), 28);
        t.due("left", x.tailFor(1, 80, 1), 22);
        t.due("money left", x.tailFor(1, 80, 2), 40);
        t.due("just", x.tailFor(0, 100, 2), 0);
        t.due("all go", x.tailFor(0, 1, 0), 100);
        t.due("all go", x.tailFor(0, 1, 2), 100);
        t.due("too rich does not matter", x.tailFor(4, 10000, 0), 1);
        t.due("no rights", x.tailFor(5, 80, 0), -2);
        t.due("q 0", x.tailFor(1, 0, 0), NilPaid.NONE);
        t.due("q 10001", x.tailFor(1, 10001, 0), NilPaid.NONE);
        t.due("no holder", x.tailFor(10, 80, 0), NilPaid.NONE);
        t.due("what 3", x.tailFor(1, 80, 3), NilPaid.NONE);
        t.due("what -1", x.tailFor(1, 80, -1), NilPaid.NONE);
        t.row("nothing is done", Due.everything(x), ahead);
        x.close();
        t.due("CLOSED", x.tailFor(1, 80, 0), -9);
    }

    private static void promise41() {
        t.about("41 tailPrice");
        NilPaid x = Due.small();
        t.due("BEFORE", x.tailPrice(1, 1), -9);
        x.open();
        for (int k = 1; k <= 50; k++) {
            int least = -2;
            for (int q = 10000; q >= 1; q--) {
                if (x.tailFor(1, q, 1) >= k) {
                    least = q;
                }
            }
            t.due("tailPrice(1, " + k + ")", x.tailPrice(1, k), least);
        }
        t.due("1 of 22", x.tailPrice(2, 1), 5);
        t.due("21 of 22", x.tailPrice(2, 21), 2100);
        t.due("22 of 22", x.tailPrice(2, 22), -2);
        t.due("a million", x.tailPrice(2, 1000000), -2);
        t.due("no rights", x.tailPrice(5, 1), -2);
        t.due("k 0", x.tailPrice(1, 0), NilPaid.NONE);
        t.due("k 1000001", x.tailPrice(1, 1000001), NilPaid.NONE);
        t.due("no holder", x.tailPrice(10, 1), NilPaid.NONE);
        NilPaid y = Due.small();
        y.terms(1, 4, 5000, 9000);
        y.open();
        // 33 of 50 left: 33 * 5000 / 17 is 9705.9; 34 of 50: 10625
        t.due("just below 10000", y.tailPrice(1, 33), 9706);
        y.sell(1, 0, 2, 0);
        // 32 of 48: just 10000
        t.due("just 10000", y.tailPrice(1, 32), 10000);
        y.sell(0, 1, 2, 0);
        t.due("above 10000", y.tailPrice(1, 34), -2);
        y.close();
        t.due("CLOSED", y.tailPrice(1, 1), -9);
    }

    private static void promise42() {
        t.about("42 ifClosed");
        NilPaid x = Due.small();
        t.due("BEFORE", x.ifClosed(0, 0), -9);
        x.open();
        x.take(0, 80);
        x.excess(0, 50);
        x.take(1, 50);
        x.excess(2, 300);
        x.rule(1);
        long[] ahead = Due.everything(x);
        // LEFT 20 + 50 + 22 + 1; asked 20 and 300
        t.due("LEFT", x.ifClosed(0, 0), 93);
        t.due("all GIVEN", x.ifClosed(0, 1), 93);
        t.due("RUMP", x.ifClosed(0, 2), 0);
        // by asked 5.8, 87.2; by held 75.9, 17.1 but 20 at most; level
        t.due("0 of 0", x.ifClosed(0, 10), 6);
        t.due("0 of 2", x.ifClosed(0, 12), 87);
        t.due("1 of 0", x.ifClosed(1, 10), 20);
        t.due("1 of 2", x.ifClosed(1, 12), 73);
        t.due("2 of 0", x.ifClosed(2, 10), 20);
        t.due("2 of 2", x.ifClosed(2, 12), 73);
        t.due("of 9", x.ifClosed(2, 19), 0);
        t.row("nothing is done", Due.everything(x), ahead);
        int[] none = {-1, 3, 9, 20};
        for (int what : none) {
            t.due("what " + what, x.ifClosed(0, what), NilPaid.NONE);
        }
        t.due("r -1", x.ifClosed(-1, 0), NilPaid.NONE);
        t.due("r 3", x.ifClosed(3, 0), NilPaid.NONE);
        x.excess(2, 10);
        t.due("RUMP", x.ifClosed(0, 2), 63);
        t.due("all GIVEN", x.ifClosed(0, 1), 30);
        x.close();
        t.due("CLOSED", x.ifClosed(0, 0), -9);
    }

    private static void promise43And44() {
        t.about("43 strikeFor, 44 soldFor");
        NilPaid x = new NilPaid();
        t.due("no book", x.strikeFor(5), 0);
        t.due("no book", x.soldFor(5, 1), 0);
        Due.book(x, "99x1000;120x5;130x4;100x2;120x3");
        int[][] due = {{1, 130, 1, 30}, {4, 130, 4, 120}, {5, 120, 5, 100}, {12, 120, 12, 240}, {13, 100, 13, 0},
            {14, 100, 14, 0}, {15, 100, 14, 0}, {1000000, 100, 14, 0}};
        for (int[] row : due) {
            t.due("strikeFor(" + row[0] + ")", x.strikeFor(row[0]), row[1]);
            t.due("soldFor(" + row[0] + ", 0)", x.soldFor(row[0], 0), row[2]);
            t.due("soldFor(" + row[0] + ", 1)", x.soldFor(row[0], 1), row[3]);
        }
        x.terms(1, 4, 121, 200);
        t.due("too few at another K", x.strikeFor(5), 130);
        t.due("sold", x.soldFor(5, 0), 4);
        t.due("premium", x.soldFor(5, 1), 36);
        x.terms(1, 4, 131, 200);
        t.due("none", x.strikeFor(5), 0);
        t.due("none sold", x.soldFor(5, 0), 0);
        t.due("no premium", x.soldFor(5, 1), 0);
        t.due("rump 0", x.strikeFor(0), NilPaid.NONE);
        t.due("rump 1000001", x.strikeFor(1000001), NilPaid.NONE);
        t.due("rump 0", x.soldFor(0, 0), NilPaid.NONE);
        t.due("rump 1000001", x.soldFor(1000001, 0), NilPaid.NONE);
        t.due("sort 2", x.soldFor(1, 2), NilPaid.NONE);
        t.due("sort -1", x.soldFor(1, -1), NilPaid.NONE);
        x.terms(1, 4, 100, 200);
        Due.book(x, "105x2");
        t.due("a shorter book in its place", x.strikeFor(2), 105);
        t.due("sold", x.soldFor(100, 0), 2);
        t.due("sold", x.strikeFor(5), 105);
        NilPaid y = Due.closed();
        Due.book(y, "150x10");
        y.done();
        t.due("DONE", y.strikeFor(3), 150);
    }

    private static void promise45() {
        t.about("45 ifTerms");
        NilPaid x = Due.small();
        t.due("top", x.ifTerms(3, 7, 50, 0), 155);
        t.due("bottom", x.ifTerms(3, 7, 50, 1), 1);
        t.due("top", x.ifTerms(2, 5, 33, 0), 1066);
        t.due("bottom", x.ifTerms(2, 5, 33, 1), 7);
        t.due("NEW", x.ifTerms(3, 7, 50, 2), 296);
        t.due("money", x.ifTerms(3, 7, 50, 3), 14800);
        t.due("T stays", x.price(0, 0), 180);
        int[][] none = {{0, 1, 1, 0}, {21, 1, 1, 0}, {1, 0, 1, 0}, {1, 21, 1, 0}, {1, 1, 0, 0}, {1, 1, 10001, 0},
            {1, 1, 1, 4}, {1, 1, 1, -1}};
        for (int[] a : none) {
            t.due("no such " + java.util.Arrays.toString(a), x.ifTerms(a[0], a[1], a[2], a[3]), NilPaid.NONE);
        }
        x.open();
        x.take(0, 100);
        x.close();
        t.due("ALL as they are", x.ifTerms(1, 1, 1, 2), 792);
    }

    private static void promise46() {
        t.about("46 termsFor");
        NilPaid x = Due.small();
        t.due("none at all", new NilPaid().termsFor(1, 1, 0), -2);
        // 692: 346 by 1 for 2, 2 for 4, ..; the fewest with 346 * 10 is by the least n through m that gives 346
        t.due("n", x.termsFor(10, 3460, 0), 1);
        t.due("m", x.termsFor(10, 3460, 1), 2);
        t.due("NEW", x.termsFor(10, 3460, 2), 346);
        for (int money = 1; money < 150000; money += 1237) {
            byAll(x, 10, money);
        }
        NilPaid y = new NilPaid();
        y.holder(0, 7, 0);
        for (int money = 1; money <= 141; money++) {
            byAll(y, 1, money);
        }
        t.due("like NEW: the least n through m", y.termsFor(1, 1, 1), 7);
        // 7 of 7 by 1 for 1: of like ones the least m
        t.due("like n through m: the least m", y.termsFor(1, 7, 1), 1);
        t.due("k 0", x.termsFor(0, 1, 0), NilPaid.NONE);
        t.due("k 10001", x.termsFor(10001, 1, 0), NilPaid.NONE);
        t.due("money 0", x.termsFor(1, 0, 0), NilPaid.NONE);
        t.due("money 2000000001", x.termsFor(1, 2000000001, 0), NilPaid.NONE);
        t.due("money 2000000000", x.termsFor(1, 2000000000, 0), -2);
        t.due("what 3", x.termsFor(1, 1, 3), NilPaid.NONE);
        t.due("what -1", x.termsFor(1, 1, -1), NilPaid.NONE);
    }

    /** All terms in a list, sorted as the document says. */
    private static void byAll(NilPaid x, int k, int money) {
        java.util.List<long[]> all = new java.util.ArrayList<>();
        for (int n = 1; n <= 20; n++) {
            for (int m = 1; m <= 20; m++) {
                if (x.ifTerms(n, m, k, 3) >= money) {
                    all.add(new long[] {x.ifTerms(n, m, k, 2), 1000000000L * n / m, m, n});
                }
            }
        }
        all.sort(java.util.Comparator.<long[]>comparingLong(a -> a[0]).thenComparingLong(a -> a[1])
            .thenComparingLong(a -> a[2]));
        long[] best = all.isEmpty() ? new long[] {-2, 0, -2, -2} : all.get(0);
        String call = "termsFor(" + k + ", " + money + ")";
        t.due(call + " n", x.termsFor(k, money, 0), best[3]);
        t.due(call + " m", x.termsFor(k, money, 1), best[2]);
        t.due(call + " NEW", x.termsFor(k, money, 2), best[0]);
    }

    private static void promise47() {
        t.about("47 priceFor");
        NilPaid x = new NilPaid();
        x.terms(2, 5, 33, 101);
        // (505 + 2 K) / 7 of 75.00: K 10; of 75.01: 10.035
        t.due("75.00", x.priceFor(7500), 10);
        t.due("75.01", x.priceFor(7501), 11);
        t.due("1", x.priceFor(1), 1);
        t.due("by K 1", x.priceFor(7242), 1);
        t.due("just above it", x.priceFor(7243), 2);
        t.due("by K 10000", x.priceFor(292928), 10000);
        t.due("none", x.priceFor(292929), -2);
        t.due("1000000", x.priceFor(1000000), -2);
        t.due("0", x.priceFor(0), NilPaid.NONE);
        t.due("1000001", x.priceFor(1000001), NilPaid.NONE);
        x.terms(1, 1, 1, 10000);
        t.due("1000000", x.priceFor(1000000), 10000);
    }

    private static void promise48() {
        t.about("48 lacks");
        NilPaid x = Due.small();
        x.holder(3, 404, 10000);
        t.due("BEFORE", x.lacks(0), -9);
        x.open();
        t.due("just enough", x.lacks(0), 0);
        t.due("all", x.lacks(1), 5000);
        t.due("more than enough", x.lacks(2), 0);
        t.due("one more", x.lacks(3), 100);
        t.due("no holder", x.lacks(10), NilPaid.NONE);
        x.close();
        t.due("CLOSED", x.lacks(0), -9);
        NilPaid y = new NilPaid();
        y.terms(20, 1, 10000, 1);
        y.holder(0, 100000, 7);
        y.open();
        t.due("the most", y.lacks(0), 20000000000L - 7);
    }

    private static void promise49() {
        t.about("49 rank");
        NilPaid x = Due.small();
        x.holder(7, 202, 0);
        x.holder(8, 1000, 0);
        int[] due = {8, 0, 1, 7, 2, 3, 4, 5, 6, 9};
        for (int k = 0; k < 10; k++) {
            t.due("rank(" + k + ")", x.rank(k), due[k]);
        }
        t.due("rank(10)", x.rank(10), NilPaid.NONE);
        t.due("rank(-1)", x.rank(-1), NilPaid.NONE);
        x.open();
        x.sell(8, 1, 200, 0);
        t.due("by SHARES", x.rank(0), 8);
    }
}
