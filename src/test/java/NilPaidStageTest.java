/** Promises 10 to 15: opened, rights sold, taken up, swallowed by a tail, plans. */
public final class NilPaidStageTest {
    private static final Due t = new Due();

    public static void main(String[] args) {
        promise10();
        promise11();
        promise12();
        promise13();
        promise14();
        promise15();
        t.end();
    }

    private static void promise10() {
        t.about("10 open");
        NilPaid x = new NilPaid();
        x.holder(0, 3, 5);
        t.due("no NEW", x.open(), -2);
        t.due("still BEFORE", x.count(0), 0);
        t.due("HELD still 0", x.of(0, 5), 0);
        x.terms(3, 7, 100, 200);
        x.holder(1, 16, 9);
        x.holder(9, 7, 0);
        t.due("open()", x.open(), 11);
        t.row("rights", Due.all(x, 2), 1, 6, 0, 0, 0, 0, 0, 0, 0, 3);
        t.row("held", Due.all(x, 5), 3, 16, 0, 0, 0, 0, 0, 0, 0, 7);
        t.due("stage", x.count(0), 1);
        t.due("NEW", x.count(2), 11);
        t.due("fractions", x.count(3), 1);
        t.due("the market", x.count(4), 0);
        t.due("again", x.open(), -9);
        x.close();
        t.due("CLOSED", x.open(), -9);
        x.done();
        t.due("DONE", x.open(), -9);
        NilPaid y = new NilPaid();
        y.terms(20, 1, 1, 1);
        for (int h = 0; h < 10; h++) {
            y.holder(h, 100000, 0);
        }
        t.due("the most NEW", y.open(), 20000000);
        NilPaid z = new NilPaid();
        for (int h = 0; h < 4; h++) {
            z.holder(h, 1, 0);
        }
        t.due("fractions alone make NEW", z.open(), 1);
        t.due("fractions", z.count(3), 1);
    }

    private static void promise11() {
        t.about("11 sell");
        NilPaid x = Due.small();
        x.holder(3, 40, 1000000000);
        t.due("BEFORE", x.sell(0, 1, 1, 1), -9);
        x.open();
        int[][] none = {{-1, 1, 1, 1}, {10, 1, 1, 1}, {0, -2, 1, 1}, {0, 10, 1, 1}, {0, 0, 1, 1}, {0, 1, 0, 1},
            {0, 1, 1000001, 1}, {0, 1, 1, -1}, {0, 1, 1, 10001}};
        for (int[] a : none) {
            t.due("no such " + java.util.Arrays.toString(a), x.sell(a[0], a[1], a[2], a[3]), NilPaid.NONE);
        }
        t.due("not so many", x.sell(0, 1, 101, 10000), -2);
        t.due("a million", x.sell(0, 1, 1000000, 0), -2);
        t.due("b has no cash", x.sell(3, 1, 10, 1), -3);
        t.due("the market needs none", x.sell(3, NilPaid.NONE, 10, 1), -4);
        t.due("a would be above", x.sell(3, 2, 10, 1), -4);
        t.due("at 0 it would not", x.sell(3, 2, 1, 0), 9);
        x.sell(2, 3, 1, 0);
        x.sell(2, 3, 1, 5);
        t.due("just 1000000000", x.sell(3, 2, 1, 5), 10);
        x.take(0, 95);
        t.due("to a holder", x.sell(0, 2, 3, 70), 97);
        t.due("take stays", x.of(0, 3), 95);
        t.due("to the market", x.sell(0, NilPaid.NONE, 7, 1000), 90);
        t.row("seller", Due.holder(x, 0), 400, 17210, 90, 90, 0, 400, 0, 0, 0, 0, 0);
        t.row("buyer", Due.holder(x, 2), 90, 99790, 25, 0, 0, 90, 0, 0, 0, 0, 0);
        t.due("the market's", x.count(4), 7);
        t.due("for nothing", x.sell(0, 1, 90, 0), 0);
        t.due("all cash", x.sell(1, 2, 140, 712), 0);
        t.due("cash of b", x.of(2, 1), 110);
        x.close();
        t.due("CLOSED", x.sell(3, 1, 1, 0), -9);
        t.due("CLOSED, no such ones", x.sell(3, 3, 1, 0), NilPaid.NONE);
    }

    private static void promise12() {
        t.about("12 take");
        NilPaid x = Due.small();
        t.due("BEFORE", x.take(0, 1), -9);
        x.open();
        t.due("take(0, 100)", x.take(0, 100), 0);
        t.due("take(0, 101)", x.take(0, 101), -2);
        t.due("take(0, 0)", x.take(0, 0), 100);
        t.due("no holder", x.take(10, 0), NilPaid.NONE);
        t.due("no holder", x.take(-1, 0), NilPaid.NONE);
        t.due("below 0", x.take(0, -1), NilPaid.NONE);
        t.due("more than any has", x.take(0, Integer.MAX_VALUE), -2);
        x.close();
        t.due("CLOSED", x.take(0, 1), -9);
    }

    private static void promise13() {
        t.about("13 excess");
        NilPaid x = Due.small();
        t.due("BEFORE", x.excess(0, 1), -9);
        x.open();
        t.due("excess(0, 100000)", x.excess(0, 100000), 0);
        t.due("excess(0, 100001)", x.excess(0, 100001), NilPaid.NONE);
        t.due("excess(0, -1)", x.excess(0, -1), NilPaid.NONE);
        t.due("no holder", x.excess(10, 1), NilPaid.NONE);
        t.due("excess(0, 0)", x.excess(0, 0), 100000);
        x.close();
        t.due("CLOSED", x.excess(0, 1), -9);
        t.due("CLOSED, no such", x.excess(0, 100001), NilPaid.NONE);
    }

    private static void promise14() {
        t.about("14 tail");
        NilPaid x = Due.small();
        x.holder(4, 8, 999999990);
        t.due("BEFORE", x.tail(1, 80), -9);
        x.open();
        t.due("no holder", x.tail(10, 80), NilPaid.NONE);
        t.due("q 0", x.tail(1, 0), NilPaid.NONE);
        t.due("q 10001", x.tail(1, 10001), NilPaid.NONE);
        t.due("no rights", x.tail(3, 80), -2);
        t.due("too rich", x.tail(4, 11), -4);
        t.row("too rich: unchanged", Due.holder(x, 4), 8, 999999990, 2, 0, 0, 8, 0, 0, 0, 0, 0);
        // 2 rights at K 100: at 10 both must go, for 20: too rich, at 5 they just fit
        t.due("both go", x.tail(4, 5), 2);
        t.due("just 1000000000", x.of(4, 1), 1000000000);
        t.due("nothing left to take", x.of(4, 3), 0);
        x.sell(1, 5, 2, 0);
        t.due("q 1", x.tail(5, 1), 2);
        x.sell(0, 1, 2, 0);
        x.sell(1, 0, 2, 0);
        // 100 rights at 100: 50 of them pay for the other 50
        x.excess(0, 3);
        t.due("halves", x.tail(0, 100), 50);
        t.row("after the tail", Due.holder(x, 0), 400, 15000, 50, 50, 3, 400, 0, 0, 0, 0, 0);
        t.due("the market's", x.count(4), 54);
        x.sell(0, 1, 2, 0);
        // 50 rights at 99: 50 * 100 / 199 is 25.1
        t.due("one more than half", x.tail(1, 99), 26);
        // 22 rights at 10000: 22 * 100 / 10100 is 0.2
        t.due("one pays for all", x.tail(2, 10000), 1);
        t.due("all others are taken", x.of(2, 3), 21);
        x.close();
        t.due("CLOSED", x.tail(0, 5), -9);
    }

    private static void promise15() {
        t.about("15 plan");
        NilPaid x = Due.small();
        Due.feed(x, "take 5");
        t.due("BEFORE", x.plan(0, 6), -9);
        t.due("the tape stays", x.count(18), 20);
        x.open();
        t.due("no holder", x.plan(10, 6), NilPaid.NONE);
        t.due("n 0", x.plan(0, 0), NilPaid.NONE);
        t.due("n 81", x.plan(0, 81), NilPaid.NONE);
        t.due("n beyond the tape", x.plan(0, 21), NilPaid.NONE);
        t.due("the tape stays", x.count(18), 20);
        t.due("take 5", x.plan(0, 6), 1);
        t.due("the tape is empty", x.count(18), 0);
        t.due("TAKE", x.of(0, 3), 5);
        t.due("all kinds", Due.plan(x, 0, "sell 10 at 20;buy 4 from 1 at 3; take all;excess 7"), 4);
        t.row("after them", Due.holder(x, 0), 400, 10188, 94, 94, 7, 400, 0, 0, 0, 0, 0);
        t.due("who sold", x.of(1, 1), 12);
        t.due("the market", x.count(4), 10);
        t.due("lapse", Due.plan(x, 0, "lapse"), 1);
        t.row("after it", Due.holder(x, 0), 400, 10188, 94, 0, 0, 400, 0, 0, 0, 0, 0);
        t.due("tail", Due.plan(x, 0, "tail 100"), 1);
        t.due("after it", x.of(0, 2), 47);
        t.due("the first refused ends it", Due.plan(x, 0, "take 1;excess 2;take 48;excess 9"), 2);
        t.due("EXCESS of the second", x.of(0, 4), 2);
        t.due("TAKE of the first", x.of(0, 3), 1);
        t.due("a fault: none is done", Due.plan(x, 0, "take 3;excess 9;take"), -1020);
        t.due("TAKE", x.of(0, 3), 1);
        t.due("the tape is empty", x.count(18), 0);
        refusedOrders();
        Due.feed(x, most(81));
        t.due("n 81 of 100", x.plan(0, 81), NilPaid.NONE);
        t.due("n 80 of 100", x.plan(0, 80), 1);
        Due.feed(x, "take 17");
        t.due("no more than n bytes are read", x.plan(0, 6), 1);
        t.due("TAKE", x.of(0, 3), 1);
        String most = "lapse;lapse;lapse;lapse;lapse;lapse;lapse;lapse;lapse;lapse;lapse;lapse;tail 100";
        t.due("80 bytes", most.length(), 80);
        t.due("13 orders", Due.plan(x, 0, most), 13);
        x.close();
        Due.feed(x, "take 5");
        t.due("CLOSED", x.plan(0, 6), -9);
        t.due("the tape stays", x.count(18), 20);
        t.due("CLOSED, no such", x.plan(0, 21), NilPaid.NONE);
    }

    private static String most(int bytes) {
        return "take 1" + " ".repeat(bytes - 6);
    }

    private static void refusedOrders() {
        String[] none = {"take 48", "excess 100001", "tail 0", "tail 10001", "sell 0 at 1", "sell 48 at 1",
            "sell 1 at 10001", "buy 1 from 0 at 1", "buy 1 from 10 at 1", "buy 0 from 1 at 1", "buy 999 from 1 at 1",
            "buy 40 from 1 at 9999", "buy 1 from 1 at 10001"};
        for (String text : none) {
            NilPaid x = Due.opened();
            x.sell(0, NilPaid.NONE, 53, 0);
            long[] ahead = Due.everything(x);
            t.due(text, Due.plan(x, 0, text), 0);
            t.row(text + " changes nothing", Due.everything(x), ahead);
        }
    }
}
