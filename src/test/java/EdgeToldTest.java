/** Boundary cases of promises 1 to 9, sentence by sentence. */
public final class EdgeToldTest {
    private static final Edge e = new Edge();

    public static void main(String[] args) {
        promise1();
        promise2();
        promise3();
        promise4();
        promise5();
        promise6();
        promise7();
        promise8();
        promise8Reasons();
        promise9();
        e.end();
    }

    private static void promise1() {
        e.edge("1: HOLDERS 0 to 9: SHARES (0 at first), CASH (0 at first)", """
            of 0 0 = 0
            of 0 1 = 0
            of 9 0 = 0
            of 9 1 = 0
            of -1 0 = -1
            of 10 0 = -1
            """);
        e.edge("1: 1 for 4 at first: 3 SHARES make no NEW", """
            holder 0 3 0
            open = -2
            """);
        e.edge("1: 1 for 4 at first: 4 SHARES make one", """
            holder 0 4 0
            open = 1
            """);
        e.edge("1: K 100 at first; PRICE 200 at first", """
            price 0 0 = 180
            price 0 1 = 1
            price 1 0 = 80
            price 2 0 = 20
            """);
        e.edge("1: STAGES: 0 BEFORE (at first)", "count 0 = 0");
        e.edge("1: A BOOK of BIDS (at first none)", """
            count 16 = 0
            bid 0 0 = -1
            """);
        e.edge("1: LAYERS of a size (0 at first), a fee", """
            taken 0 0 = 0
            taken 3 0 = 0
            taken 0 1 = 0
            taken 3 1 = 0
            count 14 = 0
            """);
        e.edge("1: RULE (0 at first)", """
            count 17 = 0
            rule 2 = 0
            """);
        e.edge("1: the tape is empty, no state is kept, no STANDS", """
            count 18 = 0
            count 19 = 0
            undo = -1
            traded 6 = 0
            """);
        e.edge("1: STAGES 0, 1, 2, 3, one behind the other, and no further", Edge.SMALL, """
            count 0 = 0
            close = -9
            done = -9
            open = 173
            count 0 = 1
            open = -9
            done = -9
            close = 173
            count 0 = 2
            open = -9
            close = -9
            done = 0
            count 0 = 3
            open = -9
            close = -9
            done = -9
            """);
    }

    private static void promise2() {
        e.edge("2: NONE if that would be more than 320: 320 are taken", "feed 1 2 3 4 5\n".repeat(15), """
            count 18 = 300
            feed 1 2 3 4 5 = 320
            feed 1 2 3 4 5 = -1
            feed 0 0 0 0 0 = -1
            count 18 = 320
            """);
        e.edge("2: how many it has: from an empty one", """
            feed 0 0 0 0 0 = 20
            feed MIN MIN MIN MIN MIN = 40
            feed MAX -1 MAX -1 MAX = 60
            """);
        e.edge("2: room again once it is empty", "tape \"5x5\"\n", "feed 0 0 0 0 0\n".repeat(15), """
            feed 0 0 0 0 0 = -1
            book 3 = 1
            feed 0 0 0 0 0 = 20
            """);
        e.edge("2: the bytes of a full tape stay", "tape \"5x5;6x6;7x7;8x8\"\n", "feed 0 0 0 0 0\n".repeat(15), """
            feed 0 0 0 0 0 = -1
            book 15 = 4
            """);
        e.edge("2: the highest of each int first: the first byte and the twentieth", """
            # 1x1;1x1;1x1;1x1;1x12
            feed 829960507 829960507 829960507 829960507 829960498
            book 20 = 5
            bid 0 0 = 1
            bid 4 1 = 12
            """);
        e.edge("2: a byte is one of 256: 128 more is another one", """
            # 181 is the digit 53 and 128 more, 160 is the blank and 128 more
            feed -1250413312 0 0 0 0
            book 3 = -1000
            feed -1607370703 0 0 0 0
            book 4 = -1000
            feed -1 -1 -1 -1 -1
            book 20 = -1000
            feed MIN 0 0 0 0
            book 4 = -1000
            """);
    }

    private static void promise3() {
        e.edge("3: HOLDERS 0 to 9", """
            holder -1 1 1 = false
            holder 10 1 1 = false
            holder MIN 1 1 = false
            holder MAX 1 1 = false
            holder 0 7 70 = true
            holder 9 8 80 = true
            of 0 0 = 7
            of 0 1 = 70
            of 9 0 = 8
            of 9 1 = 80
            count 1 = 15
            """);
        e.edge("3: SHARES (0 to 100000)", """
            holder 4 5 6 = true
            holder 4 -1 7 = false
            holder 4 100001 7 = false
            holder 4 MIN 7 = false
            holder 4 MAX 7 = false
            of 4 0 = 5
            of 4 1 = 6
            holder 4 100000 7 = true
            of 4 0 = 100000
            holder 4 0 8 = true
            of 4 0 = 0
            of 4 1 = 8
            """);
        e.edge("3: CASH (0 to 1000000000)", """
            holder 4 5 6 = true
            holder 4 7 -1 = false
            holder 4 7 1000000001 = false
            holder 4 7 MIN = false
            holder 4 7 MAX = false
            of 4 0 = 5
            of 4 1 = 6
            holder 4 7 1000000000 = true
            of 4 1 = 1000000000
            holder 4 8 0 = true
            of 4 0 = 8
            of 4 1 = 0
            """);
        e.edge("3: false: not BEFORE", Edge.SMALL, """
            holder 3 0 1 = true
            open
            holder 0 5 5 = false
            close
            holder 0 5 5 = false
            done
            holder 0 5 5 = false
            anew
            holder 0 5 5 = true
            """);
        e.edge("3: ALL of ten full HOLDERS", tenHolders(100000, 1000000000), """
            count 1 = 1000000
            part 9 = 100000
            wealth 9 = 1020000000
            """);
    }

    private static String tenHolders(int shares, int cash) {
        StringBuilder text = new StringBuilder();
        for (int h = 0; h < 10; h++) {
            text.append("holder ").append(h).append(' ').append(shares).append(' ').append(cash).append('\n');
        }
        return text.toString();
    }

    private static void promise4() {
        e.edge("4: n new SHARES for m held (1 to 20 each): n", """
            terms 0 3 10 30 = false
            terms -1 3 10 30 = false
            terms 21 3 10 30 = false
            terms MIN 3 10 30 = false
            terms MAX 3 10 30 = false
            price 0 0 = 180
            terms 1 3 10 30 = true
            price 0 0 = 25
            terms 20 5 10 30 = true
            price 0 0 = 14
            """);
        e.edge("4: n new SHARES for m held (1 to 20 each): m", """
            terms 3 0 10 30 = false
            terms 3 -1 10 30 = false
            terms 3 21 10 30 = false
            terms 3 MIN 10 30 = false
            terms 3 MAX 10 30 = false
            price 0 0 = 180
            terms 3 1 10 30 = true
            price 0 0 = 15
            terms 5 20 10 30 = true
            price 0 0 = 26
            """);
        e.edge("4: at K (1 to 10000)", """
            terms 1 1 0 30 = false
            terms 1 1 -1 30 = false
            terms 1 1 10001 30 = false
            terms 1 1 MIN 30 = false
            terms 1 1 MAX 30 = false
            price 0 0 = 180
            terms 1 1 1 31 = true
            price 0 0 = 16
            terms 1 1 10000 30 = true
            price 0 0 = 5015
            """);
        e.edge("4: PRICE P of a SHARE (1 to 10000)", """
            terms 1 1 30 0 = false
            terms 1 1 30 -1 = false
            terms 1 1 30 10001 = false
            terms 1 1 30 MIN = false
            terms 1 1 30 MAX = false
            price 0 0 = 180
            terms 1 1 31 1 = true
            price 0 0 = 16
            terms 1 1 30 10000 = true
            price 0 0 = 5015
            """);
        e.edge("4: false: not BEFORE", Edge.SMALL, """
            terms 1 4 100 200 = true
            open
            terms 1 4 100 100 = false
            close
            terms 1 4 100 100 = false
            done
            terms 1 4 100 100 = false
            anew
            terms 1 4 100 100 = true
            """);
        e.edge("4: a RIGHT is WORTH T less K (may be below 0): K above P is taken", """
            terms 1 1 101 100 = true
            price 1 0 = -1
            price 1 1 = 2
            terms 1 1 100 100 = true
            price 1 0 = 0
            terms 1 1 99 100 = true
            price 1 0 = 1
            """);
    }

    private static void promise5() {
        e.edge("5: RULE (0 to 2)", """
            rule -1 = -1
            rule 3 = -1
            rule MIN = -1
            rule MAX = -1
            rule 2 = 0
            rule 3 = -1
            count 17 = 2
            rule 0 = 2
            rule -1 = -1
            count 17 = 0
            rule 1 = 0
            count 17 = 1
            """);
        e.edge("5: what it was: no STAGE is told", Edge.SMALL, """
            rule 1 = 0
            open
            rule 2 = 1
            rule 3 = -1
            close
            rule 0 = 2
            rule 3 = -1
            done
            rule 1 = 0
            rule 3 = -1
            anew
            rule 2 = 1
            """);
    }

    private static void promise6() {
        e.edge("6: LAYERS 0 to 3", """
            layer -1 5 6 = -1
            layer 4 5 6 = -1
            layer MIN 5 6 = -1
            layer MAX 5 6 = -1
            layer 0 5 6 = 0
            layer 3 7 8 = 0
            taken 0 0 = 5
            taken 0 1 = 6
            taken 3 0 = 7
            taken 3 1 = 8
            taken 1 0 = 0
            taken 2 0 = 0
            """);
        e.edge("6: of a size (0 to 100000)", """
            layer 1 5 6 = 0
            layer 1 -1 7 = -1
            layer 1 100001 7 = -1
            layer 1 MIN 7 = -1
            layer 1 MAX 7 = -1
            layer 1 100000 7 = 5
            layer 1 0 8 = 100000
            layer 1 1 9 = 0
            taken 1 1 = 9
            """);
        e.edge("6: a fee (0 to 1000 hundredths of one of a hundred)", """
            layer 1 100 6 = 0
            layer 1 200 -1 = -1
            layer 1 200 1001 = -1
            layer 1 200 MIN = -1
            layer 1 200 MAX = -1
            taken 1 0 = 100
            taken 1 1 = 6
            layer 1 200 1000 = 100
            taken 1 3 = 2000
            layer 1 200 0 = 200
            taken 1 3 = 0
            """);
        e.edge("6: -9: DONE, and in no other STAGE; NONE comes first", Edge.SMALL, """
            layer 0 1 1 = 0
            open
            layer 0 2 2 = 1
            close
            layer 0 3 3 = 2
            done
            layer 0 4 4 = -9
            layer 4 4 4 = -1
            layer 0 100001 4 = -1
            layer 0 4 1001 = -1
            taken 0 0 = 3
            taken 0 1 = 3
            anew
            layer 0 5 5 = 0
            """);
    }

    private static void promise7() {
        e.edge("7: a DRAW of most, 1 to 16000", """
            holder 0 5 5
            drawn 1 0 = -1
            drawn 1 -1 = -1
            drawn 1 16001 = -1
            drawn 1 MIN = -1
            drawn 1 MAX = -1
            of 0 0 = 5
            drawn 1 1 = 0
            of 0 0 = 0
            drawn 1 2
            of 0 0 = 1
            drawn 1 16000
            of 0 0 = 9755
            """);
        // 25173 * 7 + 13849 = 190060, modulo 65536 is 58988; 25173 * 2 + 13849 = 64195, through 4 is 16048
        e.edge("7: X through 4, cut, modulo m: 16000 and more begin again", """
            drawn 7 16000
            of 0 0 = 14747
            drawn 2 16000
            of 0 0 = 48
            # X is 63998, 64000
            drawn 2897 16000
            of 0 0 = 15999
            drawn 8523 16000
            of 0 0 = 0
            """);
        // the second X of seed 1: 25173 * 39022 + 13849, modulo 65536 is 61087
        e.edge("7: then CASH (a DRAW of 16000, times 1000)", """
            drawn 1 1
            of 0 1 = 15271000
            # the second X is 63997, 64735
            drawn 10831 1
            of 0 1 = 15999000
            drawn 65 1
            of 0 1 = 183000
            """);
        e.edge("7: X is the lowest 16 bits of the seed at first", """
            drawn 0 16000
            of 0 0 = 3462
            drawn 65536 16000
            of 0 0 = 3462
            drawn MIN 16000
            of 0 0 = 3462
            drawn -65536 16000
            of 0 0 = 3462
            drawn 65537 16000
            of 0 0 = 9755
            # 25173 * 65535 + 13849 modulo 65536 is 54212
            drawn 65535 16000
            of 0 0 = 13553
            drawn -1 16000
            of 0 0 = 13553
            drawn MAX 16000
            of 0 0 = 13553
            """);
        e.edge("7: -9: not BEFORE; NONE comes first", Edge.OPENED, """
            drawn 1 5 = -9
            drawn 1 0 = -1
            drawn 1 16001 = -1
            close
            drawn 1 5 = -9
            drawn 1 0 = -1
            done
            drawn 1 5 = -9
            drawn 1 0 = -1
            """);
    }

    private static void promise8() {
        e.edge("8: by HOLDER a", Edge.SMALL, """
            give -1 1 1 0 = -1
            give 10 1 1 0 = -1
            give MIN 1 1 0 = -1
            give MAX 1 1 0 = -1
            give 0 9 400 0 = 0
            give 9 0 400 0 = 0
            """);
        e.edge("8: to HOLDER b", Edge.SMALL, """
            give 1 -1 1 0 = -1
            give 1 10 1 0 = -1
            give 1 MIN 1 0 = -1
            give 1 MAX 1 0 = -1
            give 1 0 2 0 = 200
            give 1 9 200 0 = 0
            """);
        e.edge("8: NONE: a is b", Edge.SMALL, """
            give 0 0 1 0 = -1
            give 9 9 1 0 = -1
            """);
        e.edge("8: k SHARES (1 to 100000)", """
            holder 0 100000 0
            give 0 1 0 0 = -1
            give 0 1 -1 0 = -1
            give 0 1 100001 0 = -1
            give 0 1 MIN 0 = -1
            give 0 1 MAX 0 = -1
            give 0 1 1 0 = 99999
            give 1 0 1 0 = 0
            give 0 1 100000 0 = 0
            of 1 0 = 100000
            """);
        e.edge("8: at q each (0 to 10000)", Edge.SMALL, """
            give 0 2 1 -1 = -1
            give 0 2 1 10001 = -1
            give 0 2 1 MIN = -1
            give 0 2 1 MAX = -1
            give 0 2 1 0 = 399
            of 2 1 = 100000
            give 0 2 1 10000 = 398
            of 2 1 = 90000
            of 0 1 = 20000
            """);
        e.edge("8: -2: a has not so many", Edge.SMALL, """
            give 2 0 91 0 = -2
            give 2 0 100000 0 = -2
            give 2 0 90 0 = 0
            give 2 0 1 0 = -2
            """);
        e.edge("8: -3: b has not the CASH", Edge.SMALL, """
            give 1 0 1 10000 = 201
            of 0 1 = 0
            give 1 0 1 1 = -3
            give 1 0 1 0 = 200
            holder 0 1 9999
            give 1 0 1 10000 = -3
            give 1 0 3 3333 = 197
            of 0 1 = 0
            """);
        e.edge("8: -4: CASH of a would be above 1000000000", """
            holder 0 100 999999990
            holder 1 100 1000
            give 0 1 11 1 = -4
            give 0 1 1 11 = -4
            give 0 1 10 1 = 90
            of 0 1 = 1000000000
            give 0 1 1 1 = -4
            give 0 1 1 0 = 89
            """);
        e.edge("8: -5: BEFORE SHARES of b would be above 100000", """
            holder 0 100 0
            holder 1 99950 0
            give 0 1 51 0 = -5
            give 0 1 50 0 = 50
            give 0 1 1 0 = -5
            of 1 0 = 100000
            """);
        e.edge("8: -5 BEFORE alone: when DONE they may be", """
            holder 0 100 0
            holder 1 100000 0
            open
            close
            done
            give 0 1 100 0 = 0
            of 1 0 = 100100
            give 1 0 100000 0 = 100
            of 0 0 = 100000
            """);
    }

    private static void promise8Reasons() {
        e.edge("8: BEFORE or DONE: another STAGE is -9, right behind NONE", Edge.SMALL, """
            give 0 1 1 0 = 399
            open
            give 0 1 1 0 = -9
            give 0 0 1 0 = -1
            give 0 1 0 0 = -1
            give 1 0 100000 10000 = -9
            close
            give 0 1 1 0 = -9
            give 10 1 1 0 = -1
            done
            give 0 1 1 0 = 398
            give 0 1 1 10001 = -1
            """);
        e.edge("8: of several reasons -2 comes ahead of -3, -4, -5", """
            holder 0 10 1000000000
            holder 1 100000 0
            give 0 1 11 1 = -2
            """);
        e.edge("8: of several reasons -3 comes ahead of -4, -5", """
            holder 0 10 1000000000
            holder 1 100000 0
            give 0 1 10 1 = -3
            """);
        e.edge("8: of several reasons -4 comes ahead of -5", """
            holder 0 10 1000000000
            holder 1 100000 10
            give 0 1 10 1 = -4
            give 0 1 10 0 = -5
            """);
        e.edge("8: DONE: -4, -3, -2 as BEFORE", """
            holder 0 100 999999990
            holder 1 100 50
            open
            close
            done
            give 0 1 101 0 = -2
            give 0 1 1 51 = -3
            give 0 1 1 11 = -4
            give 0 1 1 10 = 99
            of 0 1 = 1000000000
            of 1 1 = 40
            """);
        e.edge("8: DONE: CASH that PREMIUM brought above 1000000000", """
            terms 1 1 1 10
            holder 0 100 1000000000
            holder 1 0 5
            tape "10000x100"
            book 9
            open
            close
            done = 100
            of 0 1 = 1000999900
            give 0 1 1 1 = -4
            give 0 1 1 0 = -4
            give 0 1 101 0 = -2
            """);
        e.edge("8: the greatest sale", """
            holder 0 100000 0
            holder 1 0 1000000000
            give 0 1 100000 10000 = 0
            of 0 1 = 1000000000
            of 1 1 = 0
            """);
    }

    private static void promise9() {
        e.edge("9: each SHARE becomes x (2 to 10)", """
            holder 0 3 5
            split 1 = -1
            split 0 = -1
            split -2 = -1
            split 11 = -1
            split MIN = -1
            split MAX = -1
            split 2 = 6
            split 10 = 60
            of 0 1 = 5
            """);
        e.edge("9: -2: one would have more than 100000", """
            holder 0 1 0
            holder 9 50001 0
            split 2 = -2
            of 0 0 = 1
            holder 9 50000 0
            split 2 = 100002
            holder 9 10001 0
            split 10 = -2
            holder 9 10000 0
            split 10 = 100020
            of 9 0 = 100000
            """);
        e.edge("9: -2: one would have more than 100000: HOLDER 0", """
            holder 0 50001 0
            split 2 = -2
            holder 0 50000 0
            split 2 = 100000
            """);
        e.edge("9: -2 is of each HOLDER alone, not of ALL", tenHolders(50000, 0), """
            split 2 = 1000000
            split 2 = -2
            """);
        e.edge("9: P and K through x, cut", """
            holder 0 1 0
            terms 1 1 19 29
            split 10 = 10
            # K 1, P 2
            price 0 0 = 3
            price 0 1 = 2
            wealth 0 = 20
            """);
        e.edge("9: P and K, 1 at least", """
            holder 0 1 0
            terms 1 1 9 9
            split 10 = 10
            price 0 0 = 1
            price 1 0 = 0
            wealth 0 = 10
            split 2 = 20
            wealth 0 = 20
            price 0 0 = 1
            """);
        e.edge("9: K alone becomes 1, P through x", """
            terms 1 1 9 100
            split 10 = 0
            price 0 0 = 11
            price 0 1 = 2
            """);
        e.edge("9: without SHARES, too", "split 2 = 0");
        e.edge("9: -9: not BEFORE, right behind NONE, ahead of -2", """
            holder 0 100000 0
            open
            split 2 = -9
            split 1 = -1
            split 11 = -1
            close
            split 2 = -9
            split 1 = -1
            done
            split 2 = -9
            split 1 = -1
            """);
    }
}
