/** Promises 25 to 27: closed, the book, done. */
public final class ClosedTest {
    private static final Due t = new Due();

    public static void main(String[] args) {
        promise25TakenUp();
        promise25Enough();
        promise25ByAsked();
        promise25ByHeld();
        promise25Level();
        promise25Large();
        promise26();
        promise27Strike();
        promise27Premium();
        promise27Layers();
        t.end();
    }

    private static void promise25TakenUp() {
        t.about("25 close, taken up");
        NilPaid x = Due.small();
        t.due("BEFORE", x.close(), -9);
        x.holder(3, 40, 350);
        x.holder(4, 40, 5000);
        x.open();
        x.take(0, 60);
        x.take(1, 50);
        x.take(3, 10);
        x.take(4, 10);
        x.sell(4, NilPaid.NONE, 4, 10);
        // 0 takes 60, 1 has no cash, 3 has cash for 3, 4 has 6 rights left
        t.due("close()", x.close(), 40 + 50 + 22 + 7 + 1);
        t.row("0", Due.holder(x, 0), 460, 4000, 100, 60, 0, 400, 60, 40, 0, 0, 0);
        t.row("1", Due.holder(x, 1), 202, 0, 50, 50, 0, 202, 0, 50, 0, 0, 0);
        t.row("2", Due.holder(x, 2), 90, 100000, 22, 0, 0, 90, 0, 22, 0, 0, 0);
        t.row("3", Due.holder(x, 3), 43, 50, 10, 10, 0, 40, 3, 7, 0, 0, 0);
        t.row("4", Due.holder(x, 4), 46, 4440, 6, 6, 0, 40, 6, 0, 0, 0, 0);
        t.due("stage", x.count(0), 2);
        t.due("the market's", x.count(4), 4);
        t.due("LEFT", x.count(5), 120);
        t.due("again", x.close(), -9);
        t.due("DONE", Due.done().close(), -9);
    }

    private static void promise25Enough() {
        t.about("25 close, enough for all");
        NilPaid x = Due.opened();
        x.excess(0, 50);
        x.excess(2, 123);
        x.take(0, 50);
        // 0 has 5000 left for 50; 50 and 73 .. LEFT is 173 - 50 = 123
        x.excess(2, 73);
        x.rule(2);
        t.due("just LEFT", x.close(), 0);
        t.due("given 0", x.of(0, 9), 50);
        t.due("given 2", x.of(2, 9), 73);
        t.due("cash 0", x.of(0, 1), 0);
        t.due("shares 0", x.of(0, 0), 500);
        t.due("cash 2", x.of(2, 1), 92700);
        t.due("shares 2", x.of(2, 0), 163);
        NilPaid y = Due.opened();
        y.excess(2, 100);
        y.excess(1, 100);
        t.due("RUMP", y.close(), 73);
        t.due("ASKED by cash", y.of(1, 8), 0);
        t.due("all ASKED", y.count(6), 100);
        t.due("all GIVEN", y.count(7), 100);
    }

    /** Five holders that ask 10, 20, 30, 0, 40 of so many that are left; HELD 4, 8, 0, 80, 8. */
    private static NilPaid asking(int left, int rule) {
        NilPaid x = new NilPaid();
        x.terms(1, 1, 10, 20);
        int[] held = {4, 8, 0, 80, 8};
        int[] excess = {10, 20, 30, 0, 40};
        for (int h = 0; h < 5; h++) {
            x.holder(h, held[h], 100000);
        }
        x.rule(rule);
        x.open();
        for (int h = 0; h < 5; h++) {
            x.excess(h, excess[h]);
        }
        x.take(3, Math.min(80, 100 - left));
        return x;
    }

    private static void promise25ByAsked() {
        t.about("25 close, by asked");
        // 99 of 100: 9.9, 19.8, 29.7, 39.6; three are left over
        NilPaid x = asking(99, 0);
        t.due("no rump", x.close(), 0);
        t.row("given", Due.all(x, 9), 10, 20, 30, 0, 39, 0, 0, 0, 0, 0);
        // 33: 3.3, 6.6, 9.9, 13.2: two are left over
        NilPaid y = asking(33, 0);
        y.close();
        t.row("given", Due.all(y, 9), 4, 7, 9, 0, 13, 0, 0, 0, 0, 0);
        t.row("asked", Due.all(y, 8), 10, 20, 30, 0, 40, 0, 0, 0, 0, 0);
        t.due("paid", y.of(1, 1), 99930);
        t.due("shares", y.of(1, 0), 15);
    }

    private static void promise25ByHeld() {
        t.about("25 close, by held");
        // 33 by 4, 8, 0, 8 of 20 (3 asks none): 6.6, 13.2, 0, 13.2; one is left over
        NilPaid x = asking(33, 1);
        x.close();
        t.row("given", Due.all(x, 9), 7, 13, 0, 0, 13, 0, 0, 0, 0, 0);
        // 99: 19.8, 39.6, 0, 39.6 but no more than 10, 20, .., 39; 30 are left over: 29 to 2, one to 4
        NilPaid y = asking(99, 1);
        y.close();
        t.row("given", Due.all(y, 9), 10, 20, 29, 0, 40, 0, 0, 0, 0, 0);
        // who asks 1 counts with its HELD: 30 by 90, 10 of 100
        NilPaid one = new NilPaid();
        one.terms(1, 1, 10, 20);
        one.holder(0, 90, 100000);
        one.holder(1, 10, 100000);
        one.rule(1);
        one.open();
        one.take(0, 70);
        one.excess(0, 1);
        one.excess(1, 100);
        one.close();
        t.row("one of 30", Due.all(one, 9), 1, 29, 0, 0, 0, 0, 0, 0, 0, 0);
        NilPaid two = new NilPaid();
        two.terms(1, 1, 10, 20);
        two.holder(0, 90, 100000);
        two.holder(1, 10, 100000);
        two.holder(2, 10, 100000);
        two.rule(1);
        two.open();
        two.take(0, 90);
        two.take(1, 9);
        two.excess(0, 1);
        two.excess(1, 10);
        two.excess(2, 10);
        // 11 by 90, 10, 10 of 110: 9 but 1, 1, 1; 8 are left over
        two.close();
        t.row("11", Due.all(two, 9), 1, 5, 5, 0, 0, 0, 0, 0, 0, 0);
        // only those without HELD ask
        NilPaid z = new NilPaid();
        z.terms(1, 1, 10, 20);
        z.holder(0, 5, 0);
        z.holder(1, 0, 100);
        z.holder(2, 0, 100);
        z.rule(1);
        z.open();
        z.excess(1, 9);
        z.excess(2, 9);
        t.due("without HELD", z.close(), 0);
        t.row("round by round", Due.all(z, 9), 0, 3, 2, 0, 0, 0, 0, 0, 0, 0);
    }

    private static void promise25Level() {
        t.about("25 close, level");
        NilPaid x = asking(33, 2);
        x.close();
        t.row("33", Due.all(x, 9), 9, 8, 8, 0, 8, 0, 0, 0, 0, 0);
        NilPaid y = asking(75, 2);
        y.close();
        t.row("75", Due.all(y, 9), 10, 20, 23, 0, 22, 0, 0, 0, 0, 0);
        NilPaid z = asking(99, 2);
        z.close();
        t.row("99", Due.all(z, 9), 10, 20, 30, 0, 39, 0, 0, 0, 0, 0);
        NilPaid ten = new NilPaid();
        ten.terms(1, 1, 10, 20);
        for (int h = 0; h < 10; h++) {
            ten.holder(h, 1000, 1000000);
        }
        ten.rule(2);
        ten.open();
        for (int h = 0; h < 10; h++) {
            ten.excess(h, 1000 - 70 * h);
            ten.take(h, h == 0 ? 0 : h < 7 ? 428 : 300);
        }
        // LEFT 6532 is less than 6850 by 318: 1000, 930 and 860 are cut
        t.due("the third", ten.ifClosed(2, 12), 824);
        ten.take(1, 120);
        // by 10: only the one that asked most is cut
        ten.close();
        t.row("ten", Due.all(ten, 9), 990, 930, 860, 790, 720, 650, 580, 510, 440, 370);
        NilPaid w = new NilPaid();
        w.terms(1, 1, 10, 20);
        w.holder(0, 2, 0);
        for (int h = 5; h < 10; h++) {
            w.holder(h, 0, 1000);
        }
        w.rule(2);
        w.open();
        for (int h = 5; h < 10; h++) {
            w.excess(h, 100);
        }
        w.close();
        t.row("fewer than ask", Due.all(w, 9), 0, 0, 0, 0, 0, 1, 1, 0, 0, 0);
    }

    private static void promise25Large() {
        t.about("25 close, large");
        NilPaid x = new NilPaid();
        x.terms(20, 20, 1, 20);
        for (int h = 0; h < 10; h++) {
            x.holder(h, 100000, 1000000000);
        }
        x.rule(2);
        x.open();
        for (int h = 0; h < 10; h++) {
            x.excess(h, 100000 - h);
        }
        x.take(0, 100000);
        x.close();
        // 900000 among 10
        t.row("given", Due.all(x, 9), 90000, 90000, 90000, 90000, 90000, 90000, 90000, 90000, 90000, 90000);
        NilPaid y = new NilPaid();
        y.terms(20, 1, 10000, 10000);
        for (int h = 0; h < 10; h++) {
            y.holder(h, 100000, 1000000000);
        }
        y.open();
        for (int h = 0; h < 10; h++) {
            y.take(h, 2000000);
            y.excess(h, 100000);
        }
        t.due("the rump of the largest", y.close(), 19000000);
        t.due("taken up", y.of(9, 6), 100000);
        t.due("asked", y.of(9, 8), 0);
        t.due("shares", y.count(1), 2000000);
    }

    private static void promise26() {
        t.about("26 book");
        NilPaid x = Due.small();
        t.due("n 0", x.book(0), NilPaid.NONE);
        Due.feed(x, "100x5;101x6");
        t.due("beyond the tape", x.book(21), NilPaid.NONE);
        t.due("the tape stays", x.count(18), 20);
        t.due("BEFORE", x.book(11), 2);
        t.due("the tape is empty", x.count(18), 0);
        t.due("bids", x.count(16), 2);
        t.due("price", x.bid(1, 0), 101);
        t.due("number", x.bid(1, 1), 6);
        x.open();
        t.due("NIL PAID, in place of the one ahead", Due.book(x, "7x8"), 1);
        t.due("bids", x.count(16), 1);
        t.due("price", x.bid(0, 0), 7);
        t.due("a fault", Due.book(x, "7x8;"), -1004);
        t.due("the book stays", x.count(16), 1);
        t.due("the tape is empty", x.count(18), 0);
        t.due("a fault in the second", Due.book(x, "9x9;0x1"), -2004);
        t.due("the book stays", x.bid(0, 0), 7);
        x.close();
        t.due("CLOSED", Due.book(x, "10000x100000; 1 x 1"), 2);
        t.due("number", x.bid(0, 1), 100000);
        StringBuilder long160 = new StringBuilder("1x1");
        while (long160.length() < 160) {
            long160.append(' ');
        }
        t.due("160 bytes", Due.book(x, long160.toString()), 1);
        Due.feed(x, long160.append(' ').toString());
        t.due("161 bytes", x.book(161), NilPaid.NONE);
        x.done();
        t.due("DONE", x.book(5), -9);
        t.due("DONE: the tape stays", x.count(18), 180);
        t.due("DONE, no such n", x.book(161), NilPaid.NONE);
    }

    /** The small one DONE with a rump of 173 at K 100 and that book. */
    private static NilPaid doneBy(String text) {
        NilPaid x = Due.closed();
        Due.book(x, text);
        x.done();
        return x;
    }

    private static void promise27Strike() {
        t.about("27 done, strike");
        t.due("BEFORE", Due.small().done(), -9);
        t.due("NIL PAID", Due.opened().done(), -9);
        NilPaid none = Due.closed();
        t.due("no book", none.done(), 0);
        t.due("stage", none.count(0), 3);
        t.due("strike", none.count(9), 0);
        t.due("again", none.done(), -9);
        NilPaid x = doneBy("110x100;150x50;120x80;110x20;120x43;99x500");
        // at 150: 50, at 120: 173
        t.due("strike", x.count(9), 120);
        t.due("sold", x.count(10), 173);
        t.row("has", has(x, 6), 0, 50, 80, 0, 43, 0);
        NilPaid y = doneBy("110x100;150x50;120x80;110x20;120x42");
        // at 120: 172, so 110: those at 110 have 1, as they stand
        t.due("strike", y.count(9), 110);
        t.row("has", has(y, 5), 1, 50, 80, 0, 42);
        NilPaid z = doneBy("150x10;99x500;101x20;130x30");
        t.due("too few: the least of K or more", z.count(9), 101);
        t.due("sold", z.count(10), 60);
        t.row("has", has(z, 4), 10, 0, 20, 30);
        NilPaid w = doneBy("99x500;1x500");
        t.due("none of K or more", w.count(9), 0);
        t.due("none is sold", w.count(10), 0);
        t.row("has", has(w, 2), 0, 0);
        NilPaid k = doneBy("100x500");
        t.due("at K", k.count(9), 100);
        t.due("premium 0", k.count(11), 0);
        NilPaid next = doneBy("121x50;120x100;122x30");
        t.due("bids just above the strike", next.count(9), 120);
        t.row("has", has(next, 3), 50, 93, 30);
        NilPaid penny = new NilPaid();
        penny.terms(1, 1, 1, 20);
        penny.holder(0, 10, 0);
        penny.open();
        penny.close();
        Due.book(penny, "1x4;2x3;1x9");
        t.due("strike 1: sold", penny.done(), 10);
        t.due("strike 1", penny.count(9), 1);
        t.row("has", has(penny, 3), 4, 3, 3);
        NilPaid full = Due.opened();
        full.excess(2, 173);
        full.close();
        Due.book(full, "150x10");
        t.due("rump 0", full.done(), 0);
        t.due("strike 0", full.count(9), 0);
        t.row("has", has(full, 1), 0);
    }

    private static long[] has(NilPaid x, int many) {
        long[] row = new long[many];
        for (int i = 0; i < many; i++) {
            row[i] = x.bid(i, 2);
        }
        return row;
    }

    private static void promise27Premium() {
        t.about("27 done, premium");
        NilPaid x = Due.opened();
        x.take(0, 30);
        x.close();
        // lapsed 70, 50, 22 and 1 fraction: 143
        Due.book(x, "117x200");
        t.due("sold", x.done(), 143);
        t.due("premium", x.count(11), 17 * 143);
        t.row("parts", Due.all(x, 10), 1190, 850, 374, 0, 0, 0, 0, 0, 0, 0);
        t.row("cash", Due.all(x, 1), 8190, 850, 100374, 0, 0, 0, 0, 0, 0, 0);
        t.due("raised: 173 at 100 and 17 for the fraction", x.count(15), 17317);
        NilPaid y = Due.closed();
        Due.book(y, "101x7");
        y.done();
        // 7 times 100, 50, 22 through 173
        t.row("cut", Due.all(y, 10), 4, 2, 0, 0, 0, 0, 0, 0, 0, 0);
        t.due("raised", y.count(15), 701);
        NilPaid z = new NilPaid();
        z.terms(20, 1, 1, 10000);
        z.holder(0, 100000, 1000000000);
        z.open();
        z.close();
        StringBuilder text = new StringBuilder();
        for (int i = 0; i < 12; i++) {
            text.append(i == 0 ? "" : ";").append("10000x100000");
        }
        Due.book(z, text.toString());
        t.due("sold", z.done(), 1200000);
        t.due("cash above an int", z.of(0, 1), 1000000000L + 9999L * 1200000);
    }

    private static void promise27Layers() {
        t.about("27 done, layers");
        NilPaid x = Due.closed();
        x.layer(0, 30, 150);
        x.layer(2, 40, 33);
        x.layer(3, 90, 1000);
        Due.book(x, "110x60");
        x.done();
        // 113 are not sold: 30, 0, 40, 43
        t.row("takes", new long[] {x.taken(0, 2), x.taken(1, 2), x.taken(2, 2), x.taken(3, 2)}, 30, 0, 40, 43);
        t.row("fees", new long[] {x.taken(0, 3), x.taken(1, 3), x.taken(2, 3), x.taken(3, 3)}, 45, 0, 13, 900);
        t.due("to layers", x.count(12), 113);
        t.due("not taken", x.count(13), 0);
        t.due("fees", x.count(14), 958);
        // premium 600: 346, 173, 76 are handed out, 5 left
        t.due("raised", x.count(15), 17300 - 958 + 5);
        x.anew();
        for (int j = 0; j < 4; j++) {
            t.due("anew: size", x.taken(j, 0), 0);
            t.due("anew: fee", x.taken(j, 1), 0);
            t.due("anew: takes", x.taken(j, 2), 0);
        }
        x.terms(1, 1, 10000, 10000);
        x.layer(0, 100000, 1000);
        t.due("the greatest fee", x.taken(0, 3), 100000000);
        NilPaid y = Due.opened();
        y.sell(0, NilPaid.NONE, 10, 1);
        y.take(0, 20);
        y.excess(2, 7);
        y.close();
        y.layer(1, 100, 0);
        y.layer(0, 5, 0);
        y.done();
        // 173 less 10 of the market, 20, 7: 136
        t.due("to layers", y.count(12), 105);
        t.due("not taken", y.count(13), 31);
        t.due("raised: the market's too", y.count(15), 14200);
        NilPaid z = Due.opened();
        z.excess(2, 173);
        z.layer(0, 100, 100);
        z.close();
        z.done();
        t.due("no rump: takes none", z.taken(0, 2), 0);
        t.due("but has its fee", z.count(15), 17200);
    }
}
