/** Promises 16 to 24: rights that stand, and what one could buy, needs, has. */
public final class StandsTest {
    private static final Due t = new Due();

    public static void main(String[] args) {
        promise16Refused();
        promise16Meets();
        promise16Limits();
        promise16Twelve();
        promise16TwelveAtOnce();
        promise17And18();
        promise19();
        promise20();
        promise21();
        promise22();
        promise23();
        promise24();
        t.end();
    }

    /** Ten holders with 100 rights each and as much cash as told; K 100. */
    private static NilPaid ten(int cash) {
        NilPaid x = new NilPaid();
        for (int h = 0; h < 10; h++) {
            x.holder(h, 400, cash);
        }
        x.open();
        return x;
    }

    private static long[] standOf(NilPaid x, int i) {
        return new long[] {x.standing(i, 0), x.standing(i, 1), x.standing(i, 2), x.standing(i, 3)};
    }

    private static void promise16Refused() {
        t.about("16 stand, refused");
        NilPaid x = Due.small();
        t.due("BEFORE", x.stand(0, true, 1, 1), -9);
        x.open();
        t.due("no holder", x.stand(10, true, 1, 1), NilPaid.NONE);
        t.due("no holder", x.stand(-1, true, 1, 1), NilPaid.NONE);
        t.due("many 0", x.stand(0, true, 0, 1), NilPaid.NONE);
        t.due("many 1000001", x.stand(0, true, 1000001, 1), NilPaid.NONE);
        t.due("q 0", x.stand(0, true, 1, 0), NilPaid.NONE);
        t.due("q 10001", x.stand(0, true, 1, 10001), NilPaid.NONE);
        t.due("not so many", x.stand(0, true, 101, 1), -2);
        t.due("not the cash", x.stand(0, false, 101, 100), -3);
        t.due("a buyer needs no rights", x.stand(0, false, 100, 100), 0);
        t.due("a seller needs no cash", x.stand(1, true, 50, 10000), 0);
        t.due("two stand", x.traded(6), 2);
        x.close();
        t.due("none once CLOSED", x.traded(6), 0);
        t.due("none once CLOSED", x.standing(0, 0), NilPaid.NONE);
        t.due("CLOSED", x.stand(0, true, 1, 1), -9);
    }

    private static void promise16Meets() {
        t.about("16 stand, meets");
        NilPaid x = ten(100000);
        x.stand(1, true, 10, 50);
        x.stand(2, true, 10, 40);
        x.stand(3, true, 10, 50);
        x.stand(4, true, 10, 60);
        x.stand(0, true, 10, 30);
        x.stand(5, false, 10, 20);
        x.take(3, 95);
        t.due("40, then 50 by age; not its own, not 60", x.stand(0, false, 25, 59), 25);
        t.row("rights", Due.all(x, 2), 125, 90, 90, 95, 100, 100, 100, 100, 100, 100);
        t.row("cash", Due.all(x, 1), 98850, 100500, 100400, 100250, 100000, 100000, 100000, 100000, 100000, 100000);
        t.due("TAKE of 3 is no more", x.of(3, 3), 95);
        t.row("the eldest left", standOf(x, 0), 3, 1, 5, 50);
        t.row("then", standOf(x, 1), 4, 1, 10, 60);
        t.row("then", standOf(x, 2), 0, 1, 10, 30);
        t.row("then", standOf(x, 3), 5, 0, 10, 20);
        t.due("four", x.traded(6), 4);
        t.due("what is left stands last", x.stand(6, false, 40, 50), 15);
        t.row("ahead of it", standOf(x, 1), 5, 0, 10, 20);
        t.row("it", standOf(x, 2), 6, 0, 25, 50);
        x.take(7, 100);
        t.due("a seller meets the greatest first, at its price", x.stand(7, true, 30, 20), 30);
        t.due("25 at 50, 5 at 20", x.of(7, 1), 101350);
        t.due("TAKE is no more than RIGHTS", x.of(7, 3), 70);
        t.row("5 of the 10 at 20", standOf(x, 1), 5, 0, 5, 20);
        t.due("a buyer above does not meet one below", x.stand(8, true, 1, 21), 0);
    }

    private static void promise16Limits() {
        t.about("16 stand, limits");
        NilPaid x = ten(1000);
        x.stand(1, true, 100, 10);
        x.sell(1, NilPaid.NONE, 97, 0);
        x.stand(2, true, 5, 10);
        t.due("no more than the seller has; the next is met too", x.stand(0, false, 20, 10), 8);
        t.row("its stand stays", standOf(x, 0), 1, 1, 97, 10);
        t.row("what is left of the buyer's", standOf(x, 1), 0, 0, 12, 10);
        NilPaid none = ten(1000);
        none.stand(1, true, 5, 10);
        none.sell(1, NilPaid.NONE, 100, 0);
        t.due("the seller has none", none.stand(0, false, 5, 10), 0);
        t.due("no latest price", none.traded(2), 0);
        t.row("it stands", standOf(none, 0), 1, 1, 5, 10);
        t.row("so does the other", standOf(none, 1), 0, 0, 5, 10);
        NilPaid y = ten(1000);
        y.stand(1, false, 100, 10);
        y.sell(2, 1, 1, 955);
        t.due("no more than the buyer's cash pays", y.stand(0, true, 20, 9), 4);
        t.due("the buyer's cash", y.of(1, 1), 5);
        t.row("its stand stays", standOf(y, 0), 1, 0, 96, 10);
        t.row("the seller's behind", standOf(y, 1), 0, 1, 16, 9);
        NilPaid z = new NilPaid();
        z.holder(0, 400, 999999975);
        z.holder(1, 400, 1000);
        z.open();
        z.stand(1, false, 50, 10);
        t.due("no more than the seller may have", z.stand(0, true, 50, 10), 2);
        t.due("the seller's cash", z.of(0, 1), 999999995);
        t.due("each once", z.traded(6), 2);
        t.row("48 still", standOf(z, 0), 1, 0, 48, 10);
        t.row("48 still", standOf(z, 1), 0, 1, 48, 10);
    }

    private static void promise16Twelve() {
        t.about("16 stand, twelve");
        NilPaid x = ten(100000);
        for (int i = 0; i < 12; i++) {
            t.due("stands", x.stand(i % 9, true, 1, 100 + i), 0);
        }
        t.due("a 13th is not refused", x.stand(0, true, 1, 500), 0);
        t.due("but does not stand", x.traded(6), 12);
        t.due("nor does a buyer's", x.stand(9, false, 1, 99), 0);
        t.due("still", x.traded(6), 12);
        t.due("one that meets makes room for itself", x.stand(9, false, 2, 100), 1);
        t.row("it is the last", standOf(x, 11), 9, 0, 1, 100);
        t.due("the eldest is gone", x.standing(0, 3), 101);
    }

    private static void promise16TwelveAtOnce() {
        t.about("16 stand, meets twelve");
        NilPaid x = ten(100000);
        for (int i = 0; i < 12; i++) {
            x.stand(i % 9, true, 1, 100 + i);
        }
        t.due("costOf(9, 12)", x.costOf(9, 12), 1266);
        t.due("costOf(9, 13)", x.costOf(9, 13), -2);
        t.due("buyable(9)", x.buyable(9), 12);
        t.due("depth", x.depth(true, 111), 12);
        t.due("all", x.stand(9, false, 13, 111), 12);
        t.due("cash", x.of(9, 1), 98734);
        t.row("it stands alone", standOf(x, 0), 9, 0, 1, 111);
        NilPaid y = ten(100000);
        y.stand(3, false, 5, 1);
        t.due("the greatest at which one would buy is 1", y.traded(5), 1);
        y.stand(4, false, 5, 1);
        y.stand(5, true, 6, 1);
        t.row("of like buyers the eldest first", Due.all(y, 2), 100, 100, 100, 105, 101, 94, 100, 100, 100, 100);
    }

    private static void promise17And18() {
        t.about("17 standing, 18 withdraw");
        NilPaid x = ten(100000);
        x.stand(3, true, 7, 90);
        x.stand(4, false, 8, 80);
        x.stand(5, false, 9, 70);
        t.row("0", standOf(x, 0), 3, 1, 7, 90);
        t.row("1", standOf(x, 1), 4, 0, 8, 80);
        t.due("what 4", x.standing(0, 4), NilPaid.NONE);
        t.due("what -1", x.standing(0, -1), NilPaid.NONE);
        t.due("i 3", x.standing(3, 0), NilPaid.NONE);
        t.due("i -1", x.standing(-1, 0), NilPaid.NONE);
        t.due("i 12", x.standing(12, 0), NilPaid.NONE);
        t.due("withdraw(3)", x.withdraw(3), false);
        t.due("withdraw(-1)", x.withdraw(-1), false);
        t.due("withdraw(1)", x.withdraw(1), true);
        t.row("the younger comes up", standOf(x, 1), 5, 0, 9, 70);
        t.due("two", x.traded(6), 2);
        t.due("withdraw(1)", x.withdraw(1), true);
        t.due("withdraw(1)", x.withdraw(1), false);
        t.due("withdraw(0)", x.withdraw(0), true);
        t.due("none", x.traded(6), 0);
        t.due("none went over", x.traded(0), 0);
    }

    private static void promise19() {
        t.about("19 traded");
        NilPaid x = ten(100000);
        t.due("none to sell", x.traded(4), 0);
        t.due("none to buy", x.traded(5), 0);
        x.stand(1, true, 2, 50);
        x.stand(2, true, 3, 45);
        t.due("latest: none", x.traded(2), 0);
        t.due("mean: none", x.traded(3), 0);
        t.due("least", x.traded(4), 45);
        x.stand(0, false, 4, 60);
        t.due("many", x.traded(0), 4);
        t.due("money", x.traded(1), 185);
        t.due("latest", x.traded(2), 50);
        t.due("mean, cut", x.traded(3), 46);
        t.due("least", x.traded(4), 50);
        x.stand(5, false, 1, 7);
        x.stand(6, false, 1, 9);
        x.stand(7, false, 1, 8);
        t.due("greatest", x.traded(5), 9);
        t.due("stands", x.traded(6), 4);
        t.due("others", x.traded(7), NilPaid.NONE);
        t.due("others", x.traded(-1), NilPaid.NONE);
        x.sell(1, 0, 5, 5);
        t.due("by STANDS alone", x.traded(0), 4);
        x.stand(8, true, 100, 9);
        t.due("latest", x.traded(2), 9);
        x.close();
        t.due("CLOSED: many", x.traded(0), 5);
        t.due("CLOSED: mean", x.traded(3), 38);
        t.due("CLOSED: none to sell", x.traded(4), 0);
        t.due("CLOSED: none to buy", x.traded(5), 0);
        x.done();
        x.anew();
        t.due("anew", x.traded(0), 0);
        t.due("anew", x.traded(2), 0);
        t.due("anew", x.traded(1), 0);
        x.open();
        x.stand(1, true, 2, 5);
        x.stand(2, false, 2, 5);
        t.due("anew: money", x.traded(1), 10);
    }

    private static void promise20() {
        t.about("20 depth");
        NilPaid x = ten(100000);
        x.stand(1, true, 2, 50);
        x.stand(2, true, 3, 45);
        x.stand(3, true, 4, 55);
        x.stand(4, false, 10, 20);
        x.stand(5, false, 20, 30);
        t.due("44", x.depth(true, 44), 0);
        t.due("45", x.depth(true, 45), 3);
        t.due("50", x.depth(true, 50), 5);
        t.due("10000", x.depth(true, 10000), 9);
        t.due("bought at 1", x.depth(false, 1), 30);
        t.due("bought at 20", x.depth(false, 20), 30);
        t.due("bought at 21", x.depth(false, 21), 20);
        t.due("bought at 31", x.depth(false, 31), 0);
        t.due("0", x.depth(true, 0), NilPaid.NONE);
        t.due("10001", x.depth(false, 10001), NilPaid.NONE);
        t.due("BEFORE", new NilPaid().depth(false, 5), 0);
    }

    private static void promise21() {
        t.about("21 costOf");
        NilPaid x = Due.small();
        t.due("BEFORE", x.costOf(0, 1), -9);
        t.due("BEFORE, no such", x.costOf(0, 0), NilPaid.NONE);
        NilPaid y = ten(100000);
        y.stand(1, true, 2, 50);
        y.stand(2, true, 3, 45);
        y.stand(3, true, 100, 9000);
        y.stand(0, true, 50, 2);
        y.stand(9, false, 1, 1);
        y.sell(3, NilPaid.NONE, 100, 1);
        t.due("1", y.costOf(0, 1), 45);
        t.due("4", y.costOf(0, 4), 185);
        t.due("all, whatever they have, whatever cash", y.costOf(0, 105), 900235);
        t.due("not so many", y.costOf(0, 106), -2);
        t.due("another has 0's too", y.costOf(4, 51), 145);
        t.due("a million", y.costOf(4, 1000000), -2);
        t.due("0", y.costOf(4, 0), NilPaid.NONE);
        t.due("1000001", y.costOf(4, 1000001), NilPaid.NONE);
        t.due("no holder", y.costOf(10, 1), NilPaid.NONE);
    }

    private static void promise22() {
        t.about("22 needs");
        NilPaid x = Due.small();
        t.due("BEFORE", x.needs(0, 1), -9);
        x.open();
        // 865 in all; holder 0 has 400 with 100 rights
        t.due("has it", x.needs(0, 462427), 0);
        t.due("one more", x.needs(0, 462428), 1);
        t.due("with 401: 463583", x.needs(0, 463583), 1);
        t.due("463584", x.needs(0, 463584), 2);
        t.due("with all: 578034", x.needs(0, 578034), 100);
        t.due("578035", x.needs(0, 578035), -2);
        t.due("all of it", x.needs(0, 1000000), -2);
        t.due("one without", x.needs(5, 1), -2);
        t.due("0", x.needs(0, 0), NilPaid.NONE);
        t.due("1000001", x.needs(0, 1000001), NilPaid.NONE);
        t.due("no holder", x.needs(10, 1), NilPaid.NONE);
        x.close();
        t.due("CLOSED", x.needs(0, 1), -9);
        NilPaid y = new NilPaid();
        y.holder(0, 800, 0);
        y.open();
        // 1000 in all
        t.due("just 801", y.needs(0, 801000), 1);
        t.due("more than 801", y.needs(0, 801001), 2);
        NilPaid z = new NilPaid();
        z.terms(1, 2, 1, 1);
        z.holder(0, 2, 0);
        z.open();
        t.due("two of three", z.needs(0, 666666), 0);
        t.due("a millionth more", z.needs(0, 666667), 1);
    }

    private static void promise23() {
        t.about("23 buyable");
        t.due("BEFORE", Due.small().buyable(0), -9);
        NilPaid x = ten(1000);
        t.due("none stands", x.buyable(0), 0);
        x.stand(1, true, 2, 50);
        x.stand(2, true, 3, 45);
        x.stand(0, true, 50, 1);
        // 3 at 145 are 435, 2 at 150 are 300, 265 are left
        t.due("all", x.buyable(0), 5);
        x.stand(3, true, 10, 166);
        t.due("265 are too few for 266", x.buyable(0), 5);
        x.withdraw(3);
        x.stand(3, true, 10, 165);
        t.due("265 are enough for 265", x.buyable(0), 6);
        x.sell(3, NilPaid.NONE, 100, 0);
        t.due("whatever these have", x.buyable(0), 6);
        t.due("of another: 0's first", x.buyable(4), 9);
        t.due("no holder", x.buyable(10), NilPaid.NONE);
        t.due("no holder", x.buyable(-1), NilPaid.NONE);
    }

    private static void promise24() {
        t.about("24 thinned");
        NilPaid x = Due.small();
        t.due("BEFORE", x.thinned(0, true), -9);
        x.open();
        t.due("takes", x.thinned(0, true), 578034);
        t.due("none", x.thinned(0, false), 462427);
        x.sell(0, 2, 100, 1);
        t.due("takes", x.thinned(0, true), 462427);
        t.due("takes", x.thinned(2, true), 245086);
        t.due("no holder", x.thinned(10, true), NilPaid.NONE);
        x.close();
        t.due("CLOSED", x.thinned(0, true), -9);
    }
}
