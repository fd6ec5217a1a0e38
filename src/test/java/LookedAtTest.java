/** Promises 28 to 39: what is looked at, and anew. */
public final class LookedAtTest {
    private static final Due t = new Due();
    private static final long NO = Long.MIN_VALUE;

    public static void main(String[] args) {
        promise28();
        promise29();
        promise30And31();
        promise32();
        promise33();
        promise34();
        promise35And36();
        promise37();
        promise38();
        promise39();
        t.end();
    }

    private static void promise28() {
        t.about("28 of");
        NilPaid x = Due.small();
        t.row("BEFORE", Due.holder(x, 0), 400, 10000, 0, 0, 0, 0, 0, 0, 0, 0, 0);
        x.open();
        x.take(0, 60);
        x.excess(0, 500);
        t.row("NIL PAID", Due.holder(x, 0), 400, 10000, 100, 60, 500, 400, 0, 0, 0, 0, 0);
        x.close();
        t.row("CLOSED", Due.holder(x, 0), 500, 0, 100, 60, 500, 400, 60, 40, 40, 40, 0);
        Due.book(x, "105x500");
        x.done();
        // RUMP 73, PREMIUM 365, LEFT 113: 365 * 40 / 113
        t.row("DONE", Due.holder(x, 0), 500, 129, 100, 60, 500, 400, 60, 40, 40, 40, 129);
        t.due("what 11", x.of(0, 11), NilPaid.NONE);
        t.due("what -1", x.of(0, -1), NilPaid.NONE);
        t.due("no holder", x.of(10, 0), NilPaid.NONE);
        t.due("no holder", x.of(-1, 0), NilPaid.NONE);
    }

    private static long[] counts(NilPaid x) {
        long[] row = new long[20];
        for (int what = 0; what < 20; what++) {
            row[what] = x.count(what);
        }
        return row;
    }

    private static void promise29() {
        t.about("29 count");
        NilPaid x = Due.small();
        x.layer(0, 20, 100);
        x.layer(1, 30, 50);
        x.rule(1);
        x.keep();
        Due.book(x, "110x15;90x6");
        Due.feed(x, "a");
        t.row("BEFORE", counts(x), 0, 692, 0, 0, 0, 0, 0, 0, 0, 0, 0, 0, 0, 0, 35, 0, 2, 1, 20, 1);
        x.open();
        x.sell(0, NilPaid.NONE, 10, 1);
        x.take(0, 40);
        x.excess(2, 51);
        t.row("NIL PAID", counts(x), 1, 692, 173, 1, 10, 0, 0, 0, 0, 0, 0, 0, 0, 0, 35, 0, 2, 1, 20, 1);
        x.close();
        t.row("CLOSED", counts(x), 2, 783, 173, 1, 10, 123, 51, 51, 72, 0, 0, 0, 0, 0, 35, 0, 2, 1, 20, 1);
        x.done();
        // PREMIUM 150 by 50, 50, 22 of 123: 60, 60, 26; 4 are left; 10 + 40 + 51 + 15 + 50 at 100
        t.row("DONE", counts(x), 3, 783, 173, 1, 10, 123, 51, 51, 72, 110, 15, 150, 50, 7, 35, 16569, 2, 1, 20, 1);
        t.due("20", x.count(20), NilPaid.NONE);
        t.due("-1", x.count(-1), NilPaid.NONE);
        x.give(0, 1, 1, 0);
        t.due("ALL", x.count(1), 783);
    }

    private static void promise30And31() {
        t.about("30 taken, 31 bid");
        NilPaid x = Due.opened();
        x.layer(1, 30, 77);
        Due.book(x, "110x15;120x6");
        x.close();
        t.due("size", x.taken(1, 0), 30);
        t.due("fee", x.taken(1, 1), 77);
        t.due("takes: 0 ahead of DONE", x.taken(1, 2), 0);
        t.due("fee in pence, cut", x.taken(1, 3), 23);
        t.due("bid has: 0 ahead of DONE", x.bid(0, 2), 0);
        x.done();
        t.due("takes", x.taken(1, 2), 30);
        t.due("no layer", x.taken(4, 0), NilPaid.NONE);
        t.due("no layer", x.taken(-1, 0), NilPaid.NONE);
        t.due("no such what", x.taken(0, 4), NilPaid.NONE);
        t.due("no such what", x.taken(0, -1), NilPaid.NONE);
        t.due("price", x.bid(1, 0), 120);
        t.due("number", x.bid(1, 1), 6);
        t.due("has", x.bid(1, 2), 6);
        t.due("has", x.bid(0, 2), 15);
        t.due("no such what", x.bid(1, 3), NilPaid.NONE);
        t.due("no such what", x.bid(1, -1), NilPaid.NONE);
        t.due("no bid", x.bid(2, 0), NilPaid.NONE);
        t.due("no bid", x.bid(-1, 0), NilPaid.NONE);
        t.due("no bid", x.bid(20, 0), NilPaid.NONE);
    }

    private static void fraction(NilPaid x, int sort, long top, long bottom) {
        t.due("price(" + sort + ", 0)", x.price(sort, 0), top);
        t.due("price(" + sort + ", 1)", x.price(sort, 1), bottom);
    }

    private static void promise32() {
        t.about("32 price");
        NilPaid x = new NilPaid();
        x.terms(2, 5, 33, 101);
        fraction(x, 0, 571, 7);
        fraction(x, 1, 340, 7);
        fraction(x, 2, 136, 7);
        fraction(x, 3, 571, 707);
        x.terms(3, 3, 150, 100);
        fraction(x, 0, 125, 1);
        fraction(x, 1, -25, 1);
        fraction(x, 2, -25, 1);
        fraction(x, 3, 5, 4);
        x.terms(2, 4, 150, 101);
        fraction(x, 1, -98, 3);
        fraction(x, 2, -49, 3);
        x.terms(7, 3, 40, 40);
        fraction(x, 0, 40, 1);
        fraction(x, 1, 0, 1);
        fraction(x, 2, 0, 1);
        fraction(x, 3, 1, 1);
        t.due("sort 4", x.price(4, 0), NO);
        t.due("sort -1", x.price(-1, 0), NO);
        t.due("what 2", x.price(0, 2), NO);
        t.due("what -1", x.price(0, -1), NO);
    }

    private static void promise33() {
        t.about("33 adjusted");
        NilPaid x = new NilPaid();
        x.terms(2, 5, 33, 101);
        t.due("1000", x.adjusted(1000), 807);
        t.due("1", x.adjusted(1), 0);
        t.due("0", x.adjusted(0), 0);
        t.due("1000000", x.adjusted(1000000), 807637);
        t.due("1000001", x.adjusted(1000001), NilPaid.NONE);
        t.due("-1", x.adjusted(-1), NilPaid.NONE);
        x.terms(20, 1, 10000, 1);
        t.due("above", x.adjusted(1000000), 9523857142L);
    }

    private static void promise34() {
        t.about("34 part");
        NilPaid x = Due.small();
        t.due("BEFORE", x.part(0), 578034);
        t.due("none of all", new NilPaid().part(3), 0);
        t.due("no holder", x.part(10), NilPaid.NONE);
        t.due("no holder", x.part(-1), NilPaid.NONE);
        x.open();
        t.due("NIL PAID", x.part(0), 462427);
        x.take(0, 100);
        x.close();
        t.due("CLOSED", x.part(0), 578034);
        x.done();
        t.due("DONE: all HELD and NEW", x.part(1), 233526);
        x.give(0, 1, 500, 0);
        t.due("DONE: given", x.part(1), 811560);
    }

    private static void promise35And36() {
        t.about("35 wealth, 36 gain");
        NilPaid x = Due.small();
        x.terms(2, 5, 33, 101);
        t.due("BEFORE", x.wealth(0), 10000 + 400 * 101);
        t.due("gain BEFORE", x.gain(0), 0);
        x.open();
        // T is 571/7, worth 340/7; 160 rights
        t.due("NIL PAID", x.wealth(0), 10000 + 400 * 571 / 7 + 160 * 340 / 7);
        t.due("each is cut", x.wealth(1), 202 * 571 / 7 + 80 * 340 / 7);
        t.due("gain", x.gain(0), 32628 + 7771 - 40400);
        x.sell(0, NilPaid.NONE, 60, 100);
        t.due("sold dear", x.gain(0), 32628 + 6000 + 4857 - 40400);
        x.take(0, 50);
        x.close();
        t.due("CLOSED: no rights", x.wealth(0), 10000 + 6000 - 1650 + 450 * 571 / 7);
        t.due("gain", x.gain(0), 6000 - 1650 + 36707 - 40400);
        x.done();
        t.due("DONE", x.wealth(0), 14350 + 36707);
        x.give(0, 1, 450, 0);
        t.due("DONE: gain of who gave", x.gain(0), 14350 - 10000 - 40400);
        t.due("no holder", x.wealth(10), NilPaid.NONE);
        t.due("no holder", x.wealth(-1), NilPaid.NONE);
        t.due("no holder", x.gain(10), NO);
        t.due("no holder", x.gain(-1), NO);
        NilPaid y = Due.small();
        y.terms(1, 4, 300, 200);
        y.open();
        t.due("worth below 0 counts 0", y.wealth(0), 10000 + 400 * 220);
    }

    private static void promise37() {
        t.about("37 loss");
        NilPaid x = Due.small();
        x.terms(2, 5, 33, 101);
        x.layer(0, 10, 1000);
        x.layer(1, 0, 1000);
        x.open();
        x.close();
        t.due("CLOSED", x.loss(0, 0), -9);
        t.due("CLOSED, no such", x.loss(0, 2), NO);
        x.done();
        // 10 times 571/7 is 815.7
        t.due("what 0", x.loss(0, 0), 330 - 815);
        t.due("what 1", x.loss(0, 1), 330 - 815 - 33);
        t.due("takes none", x.loss(1, 1), 0);
        t.due("no layer", x.loss(4, 0), NO);
        t.due("no layer", x.loss(-1, 0), NO);
        t.due("what 2", x.loss(0, 2), NO);
        t.due("what -1", x.loss(0, -1), NO);
        NilPaid y = Due.small();
        y.terms(1, 6, 200, 101);
        y.layer(3, 10, 0);
        y.open();
        y.close();
        y.done();
        // 10 times 806/7 is 1151.4
        t.due("lost", y.loss(3, 0), 2000 - 1151);
    }

    private static void promise38() {
        t.about("38 anew");
        t.due("BEFORE", Due.small().anew(), -9);
        t.due("NIL PAID", Due.opened().anew(), -9);
        t.due("CLOSED", Due.closed().anew(), -9);
        NilPaid x = new NilPaid();
        x.terms(1, 3, 90, 201);
        x.rule(2);
        x.layer(1, 50, 10);
        x.holder(0, 100000, 1000000000);
        x.holder(1, 50000, 1000);
        x.open();
        x.take(0, 33333);
        x.excess(1, 3);
        x.stand(1, true, 5, 9);
        x.stand(0, false, 5, 9);
        x.close();
        Due.book(x, "10000x16000");
        x.done();
        // 0 has 33338 rights and paid 45 and 2999970; LAPSED 5, 16661 and one fraction; 1 was given 3
        t.due("P is T, cut", x.anew(), 173);
        t.due("stage", x.count(0), 0);
        t.row("0", Due.holder(x, 0), 100000, 997047552, 0, 0, 0, 0, 0, 0, 0, 0, 0);
        long cash = 1000 + 45 - 270 + 9910L * 16000 * 16661 / 16667;
        t.row("1", Due.holder(x, 1), 50003, cash, 0, 0, 0, 0, 0, 0, 0, 0, 0);
        t.row("counts", new long[] {x.count(1), x.count(2), x.count(3), x.count(4), x.count(8), x.count(9), x.count(10),
            x.count(11), x.count(12), x.count(13), x.count(14), x.count(15), x.count(16), x.count(17), x.count(18)},
            150003, 0, 0, 0, 0, 0, 0, 0, 0, 0, 0, 0, 0, 2, 0);
        t.due("layer", x.taken(1, 0), 0);
        t.due("layer's fee", x.taken(1, 1), 0);
        t.due("no bids", x.bid(0, 0), NilPaid.NONE);
        t.due("gain", x.gain(0), 0);
        // n, m stay, K stays: (3 * 173 + 90) / 4
        t.due("T top", x.price(0, 0), 609);
        t.due("T bottom", x.price(0, 1), 4);
        t.due("opens again", x.open(), 50001);
        t.due("none stands", x.traded(0), 0);
        anewCapped();
        anewCounts();
        anewEmptied();
    }

    private static void anewCounts() {
        NilPaid x = Due.opened();
        x.sell(0, NilPaid.NONE, 10, 1);
        x.close();
        x.done();
        x.anew();
        for (int what = 2; what < 17; what++) {
            t.due("count(" + what + ")", x.count(what), 0);
        }
        x.open();
        t.due("the market has none again", x.count(4), 0);
    }

    private static void anewCapped() {
        NilPaid x = new NilPaid();
        x.terms(20, 1, 1, 10000);
        x.holder(0, 100000, 1000000000);
        x.open();
        x.take(0, 100000);
        x.close();
        Due.book(x, "10000x100000");
        x.done();
        t.due("cash above", x.of(0, 1), 1000000000L - 100000 + 9999L * 100000);
        t.due("shares above", x.of(0, 0), 200000);
        t.due("P", x.anew(), 477);
        t.due("cash at most", x.of(0, 1), 1000000000);
        t.due("shares at most", x.of(0, 0), 100000);
        NilPaid penny = Due.small();
        penny.terms(1, 1, 1, 1);
        penny.open();
        penny.close();
        penny.done();
        t.due("P 1", penny.anew(), 1);
        NilPaid y = Due.small();
        y.terms(1, 1, 300, 101);
        y.open();
        y.close();
        y.done();
        t.due("P above what it was", y.anew(), 200);
        t.due("K is P at most", y.price(1, 0), 0);
        t.due("K is P at most", y.price(0, 0), 200);
    }

    /** "all is as at first, but ..": the tape and the kept states are not among what stays. */
    private static void anewEmptied() {
        NilPaid x = Due.closed();
        x.keep();
        x.done();
        Due.feed(x, "a");
        x.anew();
        t.due("the tape", x.count(18), 0);
        t.due("kept", x.count(19), 0);
        t.due("undo()", x.undo(), NilPaid.NONE);
        NilPaid y = Due.closed();
        y.keep();
        Due.feed(y, "a");
        t.due("refused", y.anew(), -9);
        t.due("the tape", y.count(18), 20);
        t.due("kept", y.count(19), 1);
    }

    private static void promise39() {
        t.about("39 planFor");
        NilPaid x = Due.small();
        Due.feed(x, "take 5");
        t.due("BEFORE", x.planFor(0, 6, 0), -9);
        t.due("the tape stays", x.count(18), 20);
        x.open();
        t.due("no what", x.planFor(0, 6, 3), NilPaid.NONE);
        t.due("no what", x.planFor(0, 6, -1), NilPaid.NONE);
        t.due("no holder", x.planFor(10, 6, 0), NilPaid.NONE);
        t.due("n 0", x.planFor(0, 0, 0), NilPaid.NONE);
        t.due("n 21", x.planFor(0, 21, 0), NilPaid.NONE);
        t.due("the tape stays", x.count(18), 20);
        t.due("done", x.planFor(0, 6, 0), 1);
        t.due("the tape is empty", x.count(18), 0);
        String text = "sell 10 at 20;buy 4 from 1 at 3;take all;excess 7;take 95;lapse";
        long[] ahead = Due.everything(x);
        t.due("orders", Due.planFor(x, 0, text, 0), 4);
        t.due("rights", Due.planFor(x, 0, text, 1), 94);
        t.due("cash", Due.planFor(x, 0, text, 2), 10188);
        t.row("nothing is done", Due.everything(x), ahead);
        t.due("the first is refused: rights", Due.planFor(x, 0, "take 101", 1), 100);
        t.due("the first is refused: cash", Due.planFor(x, 0, "take 101", 2), 10000);
        for (int what = 0; what < 3; what++) {
            t.due("a fault", Due.planFor(x, 0, "take 3;take", what), -1011);
            t.due("the tape is empty", x.count(18), 0);
        }
        t.due("the same in truth", Due.plan(x, 0, text), 4);
        t.due("rights", x.of(0, 2), 94);
        x.keep();
        Due.planFor(x, 0, "lapse", 0);
        x.undo();
        t.due("kept states are not mixed up", x.of(0, 3), 94);
        x.close();
        Due.feed(x, "lapse");
        t.due("CLOSED", x.planFor(0, 5, 0), -9);
    }
}
