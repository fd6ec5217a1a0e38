/** Boundary cases of promises 28 to 39, sentence by sentence. */
public final class EdgeLookedAtTest {
    private static final Edge e = new Edge();

    /** T is 571/7, a RIGHT is WORTH 340/7. */
    private static final String SEVENTHS = "terms 2 5 33 101\n";

    public static void main(String[] args) {
        promise28();
        promise29();
        promise30();
        promise31();
        promise32();
        promise33();
        promise34();
        promise35();
        promise36();
        promise37();
        promise38();
        promise38Stays();
        promise39();
        e.end();
    }

    private static void promise28() {
        e.edge("28: NONE: no such HOLDER", Edge.OPENED, """
            of -1 0 = -1
            of 10 0 = -1
            of MIN 0 = -1
            of MAX 0 = -1
            of 0 0 = 400
            of 9 0 = 0
            """);
        e.edge("28: NONE: no such what (0 to 10)", Edge.OPENED, """
            of 0 -1 = -1
            of 0 11 = -1
            of 0 MIN = -1
            of 0 MAX = -1
            of 0 10 = 0
            of 10 11 = -1
            """);
        e.edge("28: 2 to 5: 0 ahead of NIL PAID", Edge.SMALL, """
            of 0 2 = 0
            of 0 3 = 0
            of 0 4 = 0
            of 0 5 = 0
            open
            take 0 7
            excess 0 8
            of 0 2 = 100
            of 0 3 = 7
            of 0 4 = 8
            of 0 5 = 400
            """);
        e.edge("28: 6 to 9: 0 ahead of CLOSED", Edge.OPENED, """
            take 0 7
            excess 0 8
            of 0 6 = 0
            of 0 7 = 0
            of 0 8 = 0
            of 0 9 = 0
            close
            of 0 6 = 7
            of 0 7 = 93
            of 0 8 = 8
            of 0 9 = 8
            """);
        e.edge("28: 10: 0 ahead of DONE", Edge.CLOSED, """
            book "200x173"
            of 0 10 = 0
            done
            of 0 10 = 10000
            """);
        e.edge("28: RIGHTS stay as they were when CLOSED", Edge.OPENED, """
            take 0 100
            sell 0 1 1 0
            close
            of 0 2 = 99
            of 1 2 = 51
            done
            of 0 2 = 99
            of 1 2 = 51
            """);
    }

    private static void promise29() {
        e.edge("29: 0 to 19; NONE for others", """
            count -1 = -1
            count 20 = -1
            count MIN = -1
            count MAX = -1
            count 0 = 0
            count 19 = 0
            """);
        e.edge("29: 2 to 4: 0 BEFORE", Edge.SMALL, """
            count 2 = 0
            count 3 = 0
            count 4 = 0
            open
            sell 0 -1 3 0
            count 2 = 173
            count 3 = 1
            count 4 = 3
            close
            count 2 = 173
            count 3 = 1
            count 4 = 3
            done
            count 2 = 173
            count 3 = 1
            count 4 = 3
            anew
            count 2 = 0
            count 3 = 0
            count 4 = 0
            """);
        e.edge("29: 5 to 8: 0 ahead of CLOSED", Edge.OPENED, """
            excess 2 40
            count 5 = 0
            count 6 = 0
            count 7 = 0
            count 8 = 0
            close
            count 5 = 173
            count 6 = 40
            count 7 = 40
            count 8 = 133
            """);
        e.edge("29: 9 to 13, 15: 0 ahead of DONE", Edge.CLOSED, """
            book "110x100"
            layer 0 50 0
            count 9 = 0
            count 10 = 0
            count 11 = 0
            count 12 = 0
            count 13 = 0
            count 15 = 0
            done
            count 9 = 110
            count 10 = 100
            count 11 = 1000
            count 12 = 50
            count 13 = 23
            # 1000 * 100, 50, 22 through 173 are 578, 289, 127: 6 are left
            count 15 = 15006
            """);
        e.edge("29: 9 STRIKE (0: none)", Edge.CLOSED, """
            book "99x500"
            done
            count 9 = 0
            """);
        e.edge("29: 1 ALL: SHARES of all HOLDERS, as they are", Edge.OPENED, """
            count 1 = 692
            take 0 100
            close
            count 1 = 792
            done
            count 1 = 792
            """);
        e.edge("29: 18 bytes of the tape, 19 states that are kept", """
            feed 0 0 0 0 0
            keep
            keep
            count 18 = 20
            count 19 = 2
            """);
    }

    private static void promise30() {
        e.edge("30: NONE: no such LAYER", """
            taken -1 0 = -1
            taken 4 0 = -1
            taken MIN 0 = -1
            taken MAX 0 = -1
            taken 0 0 = 0
            taken 3 0 = 0
            """);
        e.edge("30: NONE: no such what (0 to 3)", """
            taken 0 -1 = -1
            taken 0 4 = -1
            taken 0 MIN = -1
            taken 0 MAX = -1
            taken 0 3 = 0
            taken 4 4 = -1
            """);
        e.edge("30: how many it takes (0 ahead of DONE)", Edge.SMALL, """
            layer 3 7 1000
            taken 3 2 = 0
            open
            taken 3 2 = 0
            close
            taken 3 2 = 0
            done
            taken 3 2 = 7
            taken 3 3 = 70
            """);
    }

    private static void promise31() {
        e.edge("31: NONE: no such BID: without any", """
            bid 0 0 = -1
            bid -1 0 = -1
            """);
        e.edge("31: NONE: no such BID", """
            book "5x6;7x8"
            bid -1 0 = -1
            bid MIN 0 = -1
            bid 0 0 = 5
            bid 1 0 = 7
            bid 2 0 = -1
            bid 19 0 = -1
            bid 20 0 = -1
            bid MAX 0 = -1
            """);
        e.edge("31: NONE: no such BID: of twenty", "book \"" + "1x1;".repeat(19) + "1x9\"\n", """
            bid 19 1 = 9
            bid 20 1 = -1
            """);
        e.edge("31: NONE: no such what (0 to 2)", """
            book "5x6"
            bid 0 -1 = -1
            bid 0 3 = -1
            bid 0 MIN = -1
            bid 0 MAX = -1
            bid 0 2 = 0
            bid 1 3 = -1
            """);
    }

    private static void promise32() {
        e.edge("32: Long.MIN_VALUE: no such sort (0 to 3)", """
            price -1 0 = MIN
            price 4 0 = MIN
            price MIN 0 = MIN
            price MAX 0 = MIN
            price 0 0 = 180
            price 3 0 = 9
            """);
        e.edge("32: Long.MIN_VALUE: no such what (0, 1)", """
            price 0 -1 = MIN
            price 0 2 = MIN
            price 0 MIN = MIN
            price 0 MAX = MIN
            price 0 1 = 1
            price 4 2 = MIN
            """);
        e.edge("32: in lowest terms: nothing to take out", SEVENTHS, """
            price 0 0 = 571
            price 0 1 = 7
            price 1 0 = 340
            price 1 1 = 7
            price 2 0 = 136
            price 2 1 = 7
            price 3 0 = 571
            price 3 1 = 707
            """);
        e.edge("32: in lowest terms: 0 is 0 through 1", """
            terms 20 20 7 7
            price 1 0 = 0
            price 1 1 = 1
            price 2 0 = 0
            price 2 1 = 1
            price 3 0 = 1
            price 3 1 = 1
            """);
        e.edge("32: in lowest terms: below 0 the top alone is", """
            terms 2 4 150 101
            # T is 704 / 6
            price 0 0 = 352
            price 0 1 = 3
            price 1 0 = -98
            price 1 1 = 3
            price 2 0 = -49
            price 2 1 = 3
            """);
        e.edge("32: the least and the most", """
            terms 1 20 1 10000
            price 0 0 = 66667
            price 0 1 = 7
            terms 20 1 10000 1
            price 0 0 = 66667
            price 0 1 = 7
            price 3 0 = 66667
            price 3 1 = 7
            price 2 0 = -66660
            terms 20 20 10000 10000
            price 0 0 = 10000
            price 0 1 = 1
            terms 1 1 1 1
            price 0 0 = 1
            price 0 1 = 1
            """);
    }

    private static void promise33() {
        e.edge("33: a figure of an old year (0 to 1000000)", SEVENTHS, """
            adjusted -1 = -1
            adjusted 1000001 = -1
            adjusted MIN = -1
            adjusted MAX = -1
            adjusted 0 = 0
            adjusted 1 = 0
            adjusted 2 = 1
            adjusted 1000000 = 807637
            """);
        e.edge("33: times T through P, cut: beyond an int", """
            terms 20 1 10000 1
            adjusted 1000000 = 9523857142
            terms 1 20 1 10000
            adjusted 1000000 = 952385
            """);
        e.edge("33: T is P: the figure", """
            terms 3 7 50 50
            adjusted 1 = 1
            adjusted 1000000 = 1000000
            """);
    }

    private static void promise34() {
        e.edge("34: NONE: no such HOLDER", Edge.SMALL, """
            part -1 = -1
            part 10 = -1
            part MIN = -1
            part MAX = -1
            part 0 = 578034
            part 9 = 0
            """);
        e.edge("34: 0 if there are none", """
            part 0 = 0
            part 9 = 0
            """);
        e.edge("34: all there are: BEFORE ALL", """
            holder 7 1 0
            part 7 = 1000000
            holder 8 2 0
            part 7 = 333333
            part 8 = 666666
            """);
        e.edge("34: else all HELD and NEW together", """
            holder 7 4 1000
            open
            part 7 = 800000
            take 7 1
            part 7 = 800000
            close
            part 7 = 1000000
            """);
        e.edge("34: else all HELD and NEW together: also what is NOT TAKEN", Edge.DONE, """
            part 0 = 462427
            give 0 3 399 0
            part 0 = 1156
            part 3 = 461271
            """);
    }

    private static void promise35() {
        e.edge("35: NONE: no such HOLDER", Edge.SMALL, """
            wealth -1 = -1
            wealth 10 = -1
            wealth MIN = -1
            wealth MAX = -1
            wealth 0 = 90000
            wealth 9 = 0
            """);
        e.edge("35: SHARES times P BEFORE, else SHARES times T, cut", SEVENTHS, """
            holder 0 3 5
            wealth 0 = 308
            open
            # 3 * 571 / 7 is 244.7, 1 * 340 / 7 is 48.5
            wealth 0 = 297
            close
            wealth 0 = 249
            done
            wealth 0 = 249
            """);
        e.edge("35: while NIL PAID, RIGHTS times what one is WORTH, cut by itself", SEVENTHS, """
            holder 0 4 0
            holder 1 2 0
            open
            # 4 * 571 / 7 is 326.2, 1 * 340 / 7 is 48.5
            wealth 0 = 374
            sell 0 1 1 0
            wealth 0 = 326
            # 163.1 and 48.5
            wealth 1 = 211
            """);
        e.edge("35: what one is WORTH (not below 0)", Edge.SMALL, """
            terms 1 4 300 200
            open
            # T is 220
            price 1 0 = -80
            wealth 0 = 98000
            """);
        e.edge("35: what one is WORTH: 0", Edge.SMALL, """
            terms 1 4 200 200
            open
            wealth 0 = 90000
            """);
        e.edge("35: beyond an int", """
            terms 20 1 10000 10000
            holder 0 100000 1000000000
            wealth 0 = 2000000000
            open
            sell 0 1 1000000 0
            take 0 100000
            close
            # 200000 at 10000
            wealth 0 = 2000000000
            done
            give 0 1 100000 0
            wealth 0 = 1000000000
            wealth 1 = 1000000000
            """);
    }

    private static void promise36() {
        e.edge("36: Long.MIN_VALUE: no such HOLDER", Edge.SMALL, """
            gain -1 = MIN
            gain 10 = MIN
            gain MIN = MIN
            gain MAX = MIN
            gain 0 = 0
            gain 9 = 0
            open
            gain 10 = MIN
            gain 9 = 0
            """);
        e.edge("36: (0 BEFORE)", Edge.SMALL, """
            gain 0 = 0
            open
            gain 1 = -40
            close
            gain 1 = -4040
            done
            gain 1 = -4040
            anew
            gain 1 = 0
            """);
        e.edge("36: as they were when OPENED", Edge.OPENED, """
            gain 0 = 0
            sell 0 -1 100 90
            gain 0 = 1000
            close
            gain 0 = 1000
            done
            give 0 3 400 0
            gain 0 = -71000
            gain 3 = 72000
            """);
        e.edge("36: less SHARES times P: may be below 0, far", """
            terms 20 1 1 10000
            holder 0 100000 0
            open
            # T is 10020 / 21: 47714285.7, and 2000000 at 9999 / 21 are 952285714.2
            gain 0 = -1
            close
            gain 0 = -952285715
            """);
    }

    private static void promise37() {
        e.edge("37: Long.MIN_VALUE: no such LAYER", Edge.DONE, """
            loss -1 0 = MIN
            loss 4 0 = MIN
            loss MIN 0 = MIN
            loss MAX 0 = MIN
            loss 0 0 = 0
            loss 3 0 = 0
            """);
        e.edge("37: Long.MIN_VALUE: no such what (0, 1)", Edge.DONE, """
            loss 0 -1 = MIN
            loss 0 2 = MIN
            loss 0 MIN = MIN
            loss 0 MAX = MIN
            loss 0 1 = 0
            """);
        e.edge("37: -9: not DONE, right behind Long.MIN_VALUE", Edge.SMALL, """
            loss 0 0 = -9
            loss 4 0 = MIN
            loss 0 2 = MIN
            open
            loss 0 0 = -9
            loss -1 0 = MIN
            close
            loss 0 1 = -9
            loss 0 -1 = MIN
            done
            loss 0 1 = 0
            anew
            loss 0 1 = -9
            """);
        e.edge("37: that many times T, cut", SEVENTHS, """
            holder 0 400 0
            layer 0 1 0
            layer 1 7 1000
            open
            close
            done
            # 33 less 81.5; 231 less 571, a fee of 23
            loss 0 0 = -48
            loss 0 1 = -48
            loss 1 0 = -340
            loss 1 1 = -363
            """);
        e.edge("37: may be below 0; above where K is above P", """
            terms 1 6 200 101
            holder 0 400 0
            layer 3 10 100
            open
            close
            done
            # 2000 less 1151.4, a fee of 20
            loss 3 0 = 849
            loss 3 1 = 829
            """);
        e.edge("37: it takes none: its fee alone", Edge.CLOSED, """
            layer 0 200 0
            layer 1 100 1000
            done
            loss 1 0 = 0
            loss 1 1 = -1000
            """);
    }

    private static void promise38() {
        e.edge("38: -9: not DONE", Edge.SMALL, """
            anew = -9
            open
            anew = -9
            close
            anew = -9
            done
            anew = 180
            anew = -9
            """);
        e.edge("38: P is T, cut", """
            holder 0 400 0
            terms 2 5 33 101
            open
            close
            done
            # 81.5
            anew = 81
            wealth 0 = 32400
            price 1 0 = 240
            price 1 1 = 7
            """);
        e.edge("38: P, 1 at least", """
            holder 0 400 0
            terms 20 20 1 1
            open
            close
            done
            anew = 1
            price 0 0 = 1
            """);
        e.edge("38: K is what it was, P at most: K is above P", """
            holder 0 400 0
            terms 1 1 300 101
            open
            close
            done
            anew = 200
            price 0 0 = 200
            price 1 0 = 0
            """);
        e.edge("38: K is what it was, P at most: K is P", """
            holder 0 400 0
            terms 1 1 101 100
            open
            close
            done
            anew = 100
            price 0 0 = 100
            price 1 0 = 0
            """);
        e.edge("38: K is what it was, P at most: K is below P", """
            holder 0 400 0
            terms 1 1 99 101
            open
            close
            done
            anew = 100
            price 0 0 = 199
            price 0 1 = 2
            """);
    }

    private static void promise38Stays() {
        e.edge("38: each HOLDER's SHARES (100000 at most): just", """
            terms 1 1 1 1
            holder 0 50000 1000000000
            open
            take 0 50000
            close
            done
            anew = 1
            of 0 0 = 100000
            of 0 1 = 999950000
            """);
        e.edge("38: each HOLDER's SHARES (100000 at most): one more", """
            terms 1 1 1 1
            holder 0 50001 1000000000
            open
            take 0 50001
            close
            done
            of 0 0 = 100002
            anew = 1
            of 0 0 = 100000
            """);
        e.edge("38: CASH (1000000000 at most): just", """
            terms 1 1 1 1
            holder 0 10 999999990
            book "2x10"
            open
            close
            done
            of 0 1 = 1000000000
            anew = 1
            of 0 1 = 1000000000
            """);
        e.edge("38: CASH (1000000000 at most): one more", """
            terms 1 1 1 1
            holder 0 10 999999991
            book "2x10"
            open
            close
            done
            of 0 1 = 1000000001
            anew = 1
            of 0 1 = 1000000000
            """);
        e.edge("38: CASH (1000000000 at most): beyond an int", """
            terms 20 1 1 10000
            holder 0 100000 1000000000
            book "10000x100000;10000x100000;10000x100000"
            open
            close
            done
            of 0 1 = 3999700000
            anew = 477
            of 0 1 = 1000000000
            """);
        e.edge("38: n, m, RULE stay", """
            holder 0 399 0
            terms 3 7 100 200
            rule 2
            open = 171
            close
            done
            anew = 170
            count 17 = 2
            open = 171
            """);
        e.edge("38: all is as at first: STAGE, LAYERS, BOOK, STANDS, what was OPENED, CLOSED, DONE", Edge.OPENED, """
            layer 0 5 6
            layer 3 7 8
            book "150x5;160x6"
            take 0 50
            excess 2 5
            sell 0 -1 5 1
            stand 0 true 5 50
            stand 2 false 3 50
            close
            done
            anew
            count 0 = 0
            count 2 = 0
            count 3 = 0
            count 4 = 0
            count 5 = 0
            count 6 = 0
            count 7 = 0
            count 8 = 0
            count 9 = 0
            count 10 = 0
            count 11 = 0
            count 12 = 0
            count 13 = 0
            count 14 = 0
            count 15 = 0
            count 16 = 0
            taken 0 0 = 0
            taken 0 1 = 0
            taken 0 2 = 0
            taken 3 0 = 0
            taken 3 1 = 0
            bid 0 0 = -1
            traded 0 = 0
            traded 6 = 0
            of 0 2 = 0
            of 0 3 = 0
            of 2 4 = 0
            of 0 5 = 0
            of 0 6 = 0
            of 0 7 = 0
            of 2 8 = 0
            of 2 9 = 0
            of 0 10 = 0
            gain 0 = 0
            """);
        e.edge("38: all is as at first: the tape, the states that are kept", Edge.CLOSED, """
            keep
            done
            keep
            tape "5x6"
            anew
            count 18 = 0
            count 19 = 0
            undo = -1
            keep = 1
            """);
    }

    private static void promise39() {
        String full = "take 5" + " ".repeat(74);
        e.edge("39: HOLDERS 0 to 9", Edge.OPENED, """
            tape "take 0"
            planFor -1 6 0 = -1
            planFor 10 6 0 = -1
            planFor MIN 6 0 = -1
            planFor MAX 6 0 = -1
            planFor 0 6 0 = 1
            planFor 9 "take 0" 0 = 1
            """);
        e.edge("39: NONE (also no such what): 0 to 2", Edge.OPENED, """
            tape "take 0"
            planFor 0 6 -1 = -1
            planFor 0 6 3 = -1
            planFor 0 6 MIN = -1
            planFor 0 6 MAX = -1
            count 18 = 20
            planFor 0 6 2 = 10000
            """);
        e.edge("39: n as of plan() (1 to 80)", Edge.OPENED, "tape \"" + full + " ;\"\n", """
            planFor 0 0 0 = -1
            planFor 0 -1 0 = -1
            planFor 0 81 0 = -1
            planFor 0 MIN 0 = -1
            planFor 0 MAX 0 = -1
            count 18 = 100
            planFor 0 80 0 = 1
            """);
        e.edge("39: NONE: it has not so many (the tape stays)", Edge.OPENED, """
            planFor 0 1 0 = -1
            tape "take 5              "
            planFor 0 21 0 = -1
            count 18 = 20
            planFor 0 20 0 = 1
            count 18 = 0
            """);
        e.edge("39: -9 as there (the tape stays), right behind NONE", Edge.SMALL, """
            tape "take 5"
            planFor 0 6 0 = -9
            planFor 0 6 3 = -1
            planFor 0 0 0 = -1
            planFor 10 6 0 = -1
            open
            close
            planFor 0 6 1 = -9
            planFor 0 6 -1 = -1
            done
            planFor 0 6 2 = -9
            planFor 0 81 0 = -1
            count 18 = 20
            """);
        e.edge("39: nothing being done: 0 what plan() would tell, 1 RIGHTS, 2 CASH", Edge.OPENED, """
            keep
            planFor 0 "sell 10 at 20;buy 4 from 1 at 3;take all;excess 7;lapse" 0 = 5
            planFor 0 "sell 10 at 20;buy 4 from 1 at 3;take all;excess 7;lapse" 1 = 94
            planFor 0 "sell 10 at 20;buy 4 from 1 at 3;take all;excess 7;lapse" 2 = 10188
            planFor 1 "tail 100" 1 = 25
            """);
        e.edge("39: the first is refused", Edge.OPENED, """
            planFor 0 "take 101;sell 5 at 5" 0 = 0
            planFor 0 "take 101;sell 5 at 5" 1 = 100
            planFor 0 "take 101;sell 5 at 5" 2 = 10000
            """);
        e.edge("39: the second is refused", Edge.OPENED, """
            planFor 0 "sell 5 at 5;take 96;sell 5 at 5" 0 = 1
            planFor 0 "sell 5 at 5;take 96;sell 5 at 5" 1 = 95
            planFor 0 "sell 5 at 5;take 96;sell 5 at 5" 2 = 10025
            """);
        e.edge("39: a FAULT as of plan() for these, too", Edge.OPENED, """
            planFor 0 "sell 5 at 5;x" 0 = -1012
            planFor 0 "sell 5 at 5;x" 1 = -1012
            planFor 0 "sell 5 at 5;x" 2 = -1012
            """);
    }
}
