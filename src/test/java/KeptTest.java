/** Promises 50 and 51: kept and undone. */
public final class KeptTest {
    private static final Due t = new Due();

    public static void main(String[] args) {
        eight();
        everyStage();
        doneIsKept();
        tapeIsNotKept();
        t.end();
    }

    private static void eight() {
        t.about("50 keep, 51 undo");
        NilPaid x = new NilPaid();
        t.due("none", x.undo(), NilPaid.NONE);
        for (int i = 1; i <= 8; i++) {
            x.holder(0, i, 0);
            t.due("keep()", x.keep(), i);
        }
        t.due("8 are", x.keep(), NilPaid.NONE);
        t.due("count(19)", x.count(19), 8);
        x.holder(0, 99, 0);
        for (int i = 8; i >= 1; i--) {
            t.due("undo()", x.undo(), i - 1);
            t.due("shares", x.of(0, 0), i);
        }
        t.due("none", x.undo(), NilPaid.NONE);
        x.keep();
        x.holder(0, 50, 0);
        x.keep();
        x.holder(0, 51, 0);
        x.undo();
        t.due("the latest first", x.of(0, 0), 50);
        x.undo();
        t.due("then the one ahead", x.of(0, 0), 1);
    }

    private static void everyStage() {
        NilPaid x = Due.small();
        x.rule(2);
        x.layer(2, 9, 8);
        Due.book(x, "120x7;130x8");
        x.keep();
        long[] before = Due.everything(x);
        x.open();
        x.sell(0, NilPaid.NONE, 5, 1);
        x.take(0, 50);
        x.excess(2, 9);
        x.stand(0, true, 4, 50);
        x.stand(2, false, 1, 60);
        x.stand(2, false, 3, 10);
        x.keep();
        long[] nilPaid = Due.everything(x);
        x.withdraw(0);
        x.close();
        Due.book(x, "110x1000");
        x.layer(3, 4, 5);
        x.rule(0);
        x.keep();
        long[] closed = Due.everything(x);
        x.done();
        x.give(0, 1, 7, 0);
        x.undo();
        x.keep();
        t.row("CLOSED", Due.everything(x), closed);
        x.undo();
        x.undo();
        x.keep();
        t.row("NIL PAID", Due.everything(x), nilPaid);
        t.due("can be closed again", x.close(), 172 - 5 - 50 - 9 + 1);
        x.undo();
        x.undo();
        x.keep();
        t.row("BEFORE", Due.everything(x), before);
        t.due("can be opened again", x.open(), 173);
    }

    private static void doneIsKept() {
        NilPaid y = Due.small();
        y.terms(1, 1, 50, 150);
        y.layer(0, 5, 6);
        y.keep();
        y.terms(7, 3, 22, 33);
        y.layer(0, 7, 8);
        y.undo();
        t.due("terms", y.price(0, 0), 100);
        t.due("layer 0", y.taken(0, 0), 5);
        t.due("its fee", y.taken(0, 1), 6);
        NilPaid z = Due.closed();
        Due.book(z, "130x40;120x20");
        z.layer(0, 20, 100);
        z.done();
        z.keep();
        long[] done = Due.everything(z);
        z.give(0, 1, 5, 5);
        z.undo();
        z.keep();
        t.row("DONE", Due.everything(z), done);
        z.give(0, 1, 5, 0);
        z.undo();
        z.keep();
        t.row("DONE", Due.everything(z), done);
    }

    private static void tapeIsNotKept() {
        NilPaid x = new NilPaid();
        x.keep();
        Due.feed(x, "5x5");
        x.undo();
        t.due("the tape stays", x.count(18), 20);
        x.keep();
        t.due("its bytes too", x.book(3), 1);
        t.due("empty", x.count(18), 0);
        x.undo();
        t.due("empty still", x.count(18), 0);
        t.due("the book is undone", x.count(16), 0);
    }
}
