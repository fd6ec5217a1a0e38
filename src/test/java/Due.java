/** What the project's tests share: answers that are due, texts for the tape, small companies. */
final class Due {
    private int wrong = 0;
    private int asked = 0;
    private String about = "";

    void about(String what) {
        about = what;
    }

    void due(String call, long got, long want) {
        asked++;
        if (got != want) {
            wrong++;
            System.out.println(about + ": " + call + " answered " + got + ", due is " + want);
        }
    }

    void due(String call, boolean got, boolean want) {
        due(call, got ? 1 : 0, want ? 1 : 0);
    }

    /** A row of answers, so that a state can be told in one line. */
    void row(String call, long[] got, long... want) {
        asked++;
        if (!java.util.Arrays.equals(got, want)) {
            wrong++;
            System.out.println(about + ": " + call + " answered " + java.util.Arrays.toString(got)
                + ", due is " + java.util.Arrays.toString(want));
        }
    }

    void end() {
        System.out.println(asked + " answers, " + wrong + " of them wrong");
        if (wrong != 0 || asked == 0) {
            System.exit(1);
        }
    }

    /** Feeds a text, filled up with the byte a to the next twenty: its length. */
    static int feed(NilPaid x, String text) {
        int[] words = new int[(text.length() + 19) / 20 * 5];
        for (int i = 0; i < words.length * 4; i++) {
            int sign = i < text.length() ? text.charAt(i) & 255 : 'a';
            words[i / 4] = words[i / 4] << 8 | sign;
        }
        for (int i = 0; i < words.length; i += 5) {
            x.feed(words[i], words[i + 1], words[i + 2], words[i + 3], words[i + 4]);
        }
        return text.length();
    }

    static int plan(NilPaid x, int h, String text) {
        return x.plan(h, feed(x, text));
    }

    static long planFor(NilPaid x, int h, String text, int what) {
        return x.planFor(h, feed(x, text), what);
    }

    static int book(NilPaid x, String text) {
        return x.book(feed(x, text));
    }

    /** What of() tells of one holder, 0 to 10. */
    static long[] holder(NilPaid x, int h) {
        long[] row = new long[11];
        for (int what = 0; what < row.length; what++) {
            row[what] = x.of(h, what);
        }
        return row;
    }

    /** One figure of all ten holders. */
    static long[] all(NilPaid x, int what) {
        long[] row = new long[10];
        for (int h = 0; h < row.length; h++) {
            row[h] = x.of(h, what);
        }
        return row;
    }

    /** All that can be looked at without an argument that steers: for "nothing is changed". */
    static long[] everything(NilPaid x) {
        long[] row = new long[400];
        int at = 0;
        for (int what = 0; what < 20; what++) {
            row[at++] = x.count(what);
        }
        for (int h = 0; h < 10; h++) {
            for (int what = 0; what < 11; what++) {
                row[at++] = x.of(h, what);
            }
            row[at++] = x.gain(h);
        }
        for (int j = 0; j < 4; j++) {
            for (int what = 0; what < 4; what++) {
                row[at++] = x.taken(j, what);
            }
        }
        for (int i = 0; i < 20; i++) {
            for (int what = 0; what < 3; what++) {
                row[at++] = x.bid(i, what);
            }
        }
        for (int i = 0; i < 12; i++) {
            for (int what = 0; what < 4; what++) {
                row[at++] = x.standing(i, what);
            }
        }
        for (int what = 0; what < 7; what++) {
            row[at++] = x.traded(what);
        }
        for (int sort = 0; sort < 4; sort++) {
            row[at++] = x.price(sort, 0);
            row[at++] = x.price(sort, 1);
        }
        return row;
    }

    /** BEFORE: 400 with 10000, 202 with 0, 90 with 100000; 1 for 4 at 100, price 200. */
    static NilPaid small() {
        NilPaid x = new NilPaid();
        x.holder(0, 400, 10000);
        x.holder(1, 202, 0);
        x.holder(2, 90, 100000);
        return x;
    }

    /** The small one, NIL PAID: rights 100, 50, 22; 173 new; 1 fraction. */
    static NilPaid opened() {
        NilPaid x = small();
        x.open();
        return x;
    }

    /** The small one, CLOSED with nothing taken up: a rump of 173. */
    static NilPaid closed() {
        NilPaid x = opened();
        x.close();
        return x;
    }

    /** The small one, DONE with nothing sold. */
    static NilPaid done() {
        NilPaid x = closed();
        x.done();
        return x;
    }
}
