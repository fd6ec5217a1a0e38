/** How a PLAN (promises 15, 39) and a BOOK (promise 26) are read, and their faults. */
public final class TextsTest {
    private static final Due t = new Due();

    public static void main(String[] args) {
        plans();
        planFaults();
        books();
        bookFaults();
        twentyOne();
        behindThirteen();
        t.end();
    }

    private static void goodPlan(String text, int orders, long rights, long take, long excess) {
        NilPaid x = Due.opened();
        t.due("\"" + text + "\"", Due.plan(x, 0, text), orders);
        t.due("\"" + text + "\" rights", x.of(0, 2), rights);
        t.due("\"" + text + "\" take", x.of(0, 3), take);
        t.due("\"" + text + "\" excess", x.of(0, 4), excess);
    }

    private static void plans() {
        t.about("15 plan, read");
        goodPlan("take5", 1, 100, 5, 0);
        goodPlan("take 000005", 1, 100, 5, 0);
        goodPlan("  take   5  ", 1, 100, 5, 0);
        goodPlan("take all", 1, 100, 100, 0);
        goodPlan("takeall", -1000, 100, 0, 0);
        goodPlan("take all;excess5", 2, 100, 100, 5);
        goodPlan("take5;excess 100000 ; take6", 3, 100, 6, 100000);
        goodPlan("sell5at6", 1, 95, 0, 0);
        goodPlan("sell 5at 6;take all", 2, 95, 95, 0);
        goodPlan("buy5from2at10", 1, 105, 0, 0);
        goodPlan("buy 5 from 2 at 10;take all", 2, 105, 105, 0);
        goodPlan("take 9;excess 9;lapse", 3, 100, 0, 0);
        goodPlan("tail100", 1, 50, 50, 0);
        goodPlan("tail 100;lapse", 2, 50, 0, 0);
        goodPlan("sell 100 at 0;tail 5", 1, 0, 0, 0);
        goodPlan("take 0", 1, 100, 0, 0);
        goodPlan("take 999999", 0, 100, 0, 0);
    }

    private static void planFaults() {
        t.about("15 plan, faults");
        Object[][] rows = {
            {" ", 1}, {"    ", 4}, {";", 0}, {" ;take 5", 1}, {"take", 4}, {"take ", 5}, {"take;", 4}, {"take 5;", 7},
            {"take 5; ", 8}, {"take 5;;take 6", 7}, {"take 5 6", 7}, {"take 5 all", 7}, {"take 5all", 6},
            {"take 1234567", 11}, {"take 1234567890", 11}, {"take 123456 7", 12}, {"take al", 5}, {"take alll", 5},
            {"take a ll", 5}, {"ta ke 5", 0}, {"Take 5", 0}, {"tAke 5", 0}, {"takeE 5", 4}, {"take -5", 5},
            {"5", 0}, {"1234567", 0}, {"lapse 5", 6}, {"lapse5", 5}, {"lapsetake 5", 0}, {"lapse take 5", 6},
            {"excess all", 7}, {"excess", 6}, {"excess 5,", 8}, {"tail all", 5}, {"tail", 4}, {"sell 5", 6},
            {"sell at 5", 5}, {"sell 5 to 5", 7}, {"sell 5 at", 9}, {"sell 5 at at", 10}, {"sell 5 ata 5", 7},
            {"sell 5 at 5 at 5", 12}, {"sell 1234567 at 5", 11}, {"sell 5 at 1234567", 16}, {"buy 5 at 6", 6},
            {"buy 5 from", 10}, {"buy 5 from all", 11}, {"buy 5 from 2", 12}, {"buy 5 from 2 from 3", 13},
            {"buy 5 from 2 at", 15}, {"buy 5 from 2 at ;", 16}, {"buy 5 fro 2 at 3", 6}, {"bu 5", 0},
            {"take 5;tak 6", 7}, {"take 5;  tak 6", 9}, {"take 5\ttake 6", 6}, {"take\t5", 4}, {"take 5;\u00e9", 7},
            {"sell", 4}, {"sell ", 5}, {"sell;", 4}, {"buy", 3}, {"buy ", 4}, {"buy;", 3}, {"takez 5", 0}, {"takea 5", 0},
            {"take 5 z", 7}, {"sell 5 at ", 10}, {"buy 5 from ", 11}, {"buy 5 from 2 at ", 16}, {"tail ", 5},
            {"\u00e9", 0}, {"take 5`", 6}, {"take 5{", 6}, {"take 5/", 6}, {"take 5:", 6}, {"take\u00005", 4},
            {"sell 999999 at 5; take 5 x", 25}, {"5take 5", 0}, {"all", 0}, {"at 5", 0}, {"take lapse", 5},
        };
        for (Object[] row : rows) {
            NilPaid x = Due.opened();
            String text = (String) row[0];
            int place = (Integer) row[1];
            long[] ahead = Due.everything(x);
            t.due("\"" + text + "\"", Due.plan(x, 0, text), -1000 - place);
            t.row("\"" + text + "\" changes nothing", Due.everything(x), ahead);
            t.due("\"" + text + "\" would be", Due.planFor(x, 0, text, 2), -1000 - place);
        }
    }

    private static void goodBook(String text, int... bids) {
        NilPaid x = new NilPaid();
        t.due("\"" + text + "\"", Due.book(x, text), bids.length / 2);
        for (int i = 0; i < bids.length; i += 2) {
            t.due("\"" + text + "\" price", x.bid(i / 2, 0), bids[i]);
            t.due("\"" + text + "\" number", x.bid(i / 2, 1), bids[i + 1]);
        }
    }

    private static void books() {
        t.about("26 book, read");
        goodBook("1x1", 1, 1);
        goodBook("10000x100000", 10000, 100000);
        goodBook("010000x000001", 10000, 1);
        goodBook("  5  x  6  ", 5, 6);
        goodBook("5x6;7x8 ; 9 x10;9x10", 5, 6, 7, 8, 9, 10, 9, 10);
    }

    private static void bookFaults() {
        t.about("26 book, faults");
        Object[][] rows = {
            {" ", 1, 1}, {";", 1, 0}, {"5", 1, 1}, {"5 ", 1, 2}, {"5x", 1, 2}, {"5x ", 1, 3}, {"x5", 1, 0},
            {"5x5;", 1, 4}, {"5x5; ", 1, 5}, {"5x5;;5x5", 1, 4}, {"5xx5", 1, 2}, {"5X5", 1, 1}, {"5 5x5", 1, 2},
            {"5x5 5", 1, 4}, {"5x5x5", 1, 3}, {"5x5,", 1, 3}, {"5xa", 1, 2}, {"5ax5", 1, 1}, {"5 x5 x", 1, 5},
            {"0x5", 2, 0}, {"10001x5", 2, 0}, {"5x0", 2, 2}, {"5x100001", 2, 2}, {"5x 100001", 2, 3},
            {"  0x5", 2, 2}, {"0", 2, 0}, {"0?", 2, 0}, {"000000x5", 2, 0}, {"999999", 2, 0}, {"0 0x5", 2, 0},
            {"0000000x5", 1, 6}, {"1234567x5", 1, 6}, {"5x1234567", 1, 8}, {"5x0000000", 1, 8}, {"5x5;0x5;a", 2, 4},
            {"5x5;5x0;a", 2, 6}, {"a;0x5", 1, 0}, {"\u00e9", 1, 0}, {"5x5\t", 1, 3}, {"-5x5", 1, 0},
        };
        for (Object[] row : rows) {
            NilPaid x = new NilPaid();
            Due.book(x, "77x88");
            long[] ahead = Due.everything(x);
            String text = (String) row[0];
            int fault = (Integer) row[1];
            int place = (Integer) row[2];
            t.due("\"" + text + "\"", Due.book(x, text), -1000 * fault - place);
            t.row("\"" + text + "\" changes nothing", Due.everything(x), ahead);
        }
    }

    private static void twentyOne() {
        t.about("26 book, twenty and one");
        StringBuilder twenty = new StringBuilder("1x1");
        for (int i = 1; i < 20; i++) {
            twenty.append(";").append(i + 1).append("x1");
        }
        String text = twenty.toString();
        int n = text.length();
        NilPaid x = new NilPaid();
        t.due("twenty", Due.book(x, text), 20);
        t.due("the last", x.bid(19, 0), 20);
        t.due("beyond", x.bid(20, 0), NilPaid.NONE);
        t.due("a 21st", Due.book(x, text + ";1x1"), -3000 - n - 1);
        t.due("a 21st behind blanks", Due.book(x, text + " ; 1x1"), -3000 - n - 3);
        t.due("told at once: 0", Due.book(x, text + ";0x1"), -3000 - n - 1);
        t.due("told at once: 7 digits", Due.book(x, text + ";1234567"), -3000 - n - 1);
        t.due("told at once: no more", Due.book(x, text + ";1"), -3000 - n - 1);
        t.due("the end", Due.book(x, text + ";"), -1000 - n - 1);
        t.due("no digit", Due.book(x, text + ";x"), -1000 - n - 1);
        t.due("one ahead is wrong", Due.book(x, "0x1;" + text), -2000);
        t.due("the twentieth is wrong", Due.book(x, text.substring(0, n - 1) + "0;1x1"), -2000 - n + 1);
        t.due("the book stays", x.count(16), 20);
    }

    /** 13 orders fill 77 bytes: behind their last ; no other fits, and the fault is where it stands. */
    private static void behindThirteen() {
        t.about("15 plan, behind thirteen orders");
        String full = "lapse;".repeat(13);
        Object[][] rows = {{"", 78}, {" ", 79}, {"  ", 80}, {" x", 79}, {"x ", 78}, {"la", 78}, {" 5", 79}, {"5", 78}, {";", 78}};
        for (Object[] row : rows) {
            t.due("\"" + row[0] + "\"", Due.plan(Due.opened(), 0, full + row[0]), -1000 - (Integer) row[1]);
        }
    }
}
