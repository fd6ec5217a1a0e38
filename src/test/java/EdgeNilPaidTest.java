/** Boundary cases of promises 10 to 15, sentence by sentence. */
public final class EdgeNilPaidTest {
    private static final Edge e = new Edge();

    /** HOLDER 0 has 1000001 RIGHTS, K 1. */
    private static final String MILLION = """
        terms 20 1 1 10
        holder 0 100000 0
        holder 1 0 1000000000
        holder 2 0 0
        open
        sell 0 2 999999 0
        """;

    public static void main(String[] args) {
        promise10();
        promise11Bounds();
        promise11Refused();
        promise11Reasons();
        promise12();
        promise13();
        promise14();
        promise14Fewest();
        promise15Bounds();
        promise15Refused();
        promise15Orders();
        e.end();
    }

    private static void promise10() {
        e.edge("10: -2: no NEW: without SHARES", """
            open = -2
            count 0 = 0
            holder 0 4 0 = true
            """);
        e.edge("10: NEW: n times ALL through m, cut", """
            terms 1 20 1 1
            holder 0 19 0
            open = -2
            holder 9 1 0
            open = 1
            """);
        e.edge("10: -2: no NEW: one fewer is none, by 19 for 20 one is none, two are one", """
            terms 19 20 1 1
            holder 3 1 0
            open = -2
            holder 3 2 0
            open = 1
            of 3 2 = 1
            """);
        e.edge("10: one SHARE by 20 for 1", """
            terms 20 1 1 1
            holder 5 1 0
            open = 20
            of 5 2 = 20
            count 3 = 0
            """);
        e.edge("10: each HOLDER has as many RIGHTS as n times SHARES through m, cut", """
            terms 2 7 1 1
            holder 0 3 0
            holder 1 4 0
            holder 2 6 0
            holder 3 7 0
            open = 5
            of 0 2 = 0
            of 1 2 = 1
            of 2 2 = 1
            of 3 2 = 2
            of 4 2 = 0
            """);
        e.edge("10: FRACTIONS: NEW less all RIGHTS: none", """
            holder 0 8 0
            holder 9 4 0
            open = 3
            count 3 = 0
            """);
        e.edge("10: FRACTIONS: NEW less all RIGHTS: all of them", ten(19), """
            terms 1 20 1 1
            open = 9
            count 3 = 9
            of 0 2 = 0
            of 9 2 = 0
            close = 9
            """);
        e.edge("10: the most NEW", ten(100000), """
            terms 20 1 1 1
            open = 20000000
            of 9 2 = 2000000
            count 3 = 0
            """);
        e.edge("10: HELD is what each HOLDER has as SHARES then; TAKE, EXCESS (0 at first); THE MARKET has no RIGHTS", Edge.SMALL, """
            of 0 5 = 0
            open = 173
            of 0 5 = 400
            of 2 5 = 90
            of 9 5 = 0
            of 0 3 = 0
            of 0 4 = 0
            count 4 = 0
            """);
        e.edge("10: -9: not BEFORE", Edge.SMALL, """
            open = 173
            open = -9
            close
            open = -9
            done
            open = -9
            anew
            open = 173
            """);
        e.edge("10: TAKE, EXCESS, THE MARKET's RIGHTS are 0 again when OPENED again", Edge.OPENED, """
            take 0 5
            excess 0 6
            sell 0 -1 7 0
            close
            done
            anew
            open
            of 0 3 = 0
            of 0 4 = 0
            count 4 = 0
            """);
    }

    private static String ten(int shares) {
        StringBuilder text = new StringBuilder();
        for (int h = 0; h < 10; h++) {
            text.append("holder ").append(h).append(' ').append(shares).append(" 0\n");
        }
        return text.toString();
    }

    private static void promise11Bounds() {
        e.edge("11: by HOLDER a", Edge.OPENED, """
            sell -1 0 1 0 = -1
            sell 10 0 1 0 = -1
            sell MIN 0 1 0 = -1
            sell MAX 0 1 0 = -1
            sell -1 -1 1 0 = -1
            sell 0 9 100 0 = 0
            sell 9 0 100 0 = 0
            """);
        e.edge("11: to HOLDER b (NONE: THE MARKET)", Edge.OPENED, """
            sell 1 -2 1 0 = -1
            sell 1 10 1 0 = -1
            sell 1 MIN 1 0 = -1
            sell 1 MAX 1 0 = -1
            sell 1 -1 1 0 = 49
            count 4 = 1
            sell 1 0 1 0 = 48
            of 0 2 = 101
            sell 1 9 1 0 = 47
            of 9 2 = 1
            count 4 = 1
            """);
        e.edge("11: NONE: a is b", Edge.OPENED, """
            sell 0 0 1 0 = -1
            sell 9 9 1 0 = -1
            """);
        e.edge("11: k of them (1 to 1000000)", MILLION, """
            of 0 2 = 1000001
            sell 0 1 0 0 = -1
            sell 0 1 -1 0 = -1
            sell 0 1 1000001 0 = -1
            sell 0 1 MIN 0 = -1
            sell 0 1 MAX 0 = -1
            sell 0 1 1 0 = 1000000
            sell 0 1 1000000 0 = 0
            of 1 2 = 1000001
            sell 1 -1 1000000 0 = 1
            count 4 = 1000000
            """);
        e.edge("11: at q each (0 to 10000)", Edge.OPENED, """
            sell 0 2 1 -1 = -1
            sell 0 2 1 10001 = -1
            sell 0 -1 1 -1 = -1
            sell 0 -1 1 10001 = -1
            sell 0 2 1 MIN = -1
            sell 0 2 1 MAX = -1
            sell 0 2 1 0 = 99
            of 2 1 = 100000
            sell 0 2 1 10000 = 98
            of 2 1 = 90000
            of 0 1 = 20000
            sell 0 -1 1 10000 = 97
            of 0 1 = 30000
            """);
    }

    private static void promise11Refused() {
        e.edge("11: -2: a has not so many", Edge.OPENED, """
            sell 2 0 23 0 = -2
            sell 2 -1 23 0 = -2
            sell 2 0 1000000 0 = -2
            sell 2 0 22 0 = 0
            sell 2 0 1 0 = -2
            sell 3 0 1 0 = -2
            """);
        e.edge("11: -3: b has not the CASH", Edge.OPENED, """
            sell 0 1 1 1 = -3
            sell 0 1 1 0 = 99
            sell 1 0 1 10000 = 50
            of 0 1 = 0
            sell 0 1 2 5000 = 98
            of 1 1 = 0
            sell 1 0 3 3334 = -3
            sell 1 0 3 3333 = 49
            of 0 1 = 1
            """);
        e.edge("11: -3: of THE MARKET no CASH is asked", Edge.OPENED, """
            sell 1 -1 50 10000 = 0
            of 1 1 = 500000
            """);
        e.edge("11: -4: CASH of a would be above 1000000000", Edge.SMALL, """
            holder 3 40 999999990
            open
            sell 3 2 1 11 = -4
            sell 3 -1 1 11 = -4
            sell 3 2 1 4 = 9
            sell 3 -1 1 6 = 8
            of 3 1 = 1000000000
            sell 3 2 1 1 = -4
            sell 3 -1 1 1 = -4
            sell 3 2 1 0 = 7
            sell 3 -1 1 0 = 6
            """);
        e.edge("11: money beyond an int: 429497 at 10000 are 4294970000", MILLION, """
            sell 0 1 429497 10000 = -3
            sell 0 -1 429497 10000 = -4
            sell 0 1 1000000 10000 = -3
            sell 0 -1 1000000 10000 = -4
            sell 0 1 100001 10000 = -3
            sell 0 1 100000 10000 = 900001
            of 0 1 = 1000000000
            of 1 1 = 0
            """);
        e.edge("11: (TAKE of a is no more than its RIGHTS then)", Edge.OPENED, """
            take 0 60
            sell 0 1 40 0 = 60
            of 0 3 = 60
            sell 0 1 1 0 = 59
            of 0 3 = 59
            sell 0 -1 59 0 = 0
            of 0 3 = 0
            sell 1 0 60 0 = 31
            of 0 3 = 0
            of 0 2 = 60
            """);
        e.edge("11: TAKE of b stays", Edge.OPENED, """
            take 1 50
            sell 0 1 5 0 = 95
            of 1 3 = 50
            of 1 2 = 55
            """);
    }

    private static void promise11Reasons() {
        e.edge("11: -9, right behind NONE, ahead of -2", Edge.SMALL, """
            sell 0 1 1 0 = -9
            sell 0 1 1000000 10000 = -9
            sell 0 0 1 0 = -1
            sell 0 1 0 0 = -1
            open
            close
            sell 0 1 1 0 = -9
            sell 0 -1 1 0 = -9
            sell 0 10 1 0 = -1
            done
            sell 0 1 1 0 = -9
            sell 0 1 1 10001 = -1
            """);
        e.edge("11: of several reasons -2 comes ahead of -3, -4", Edge.SMALL, """
            holder 3 4 1000000000
            open
            sell 3 1 2 1 = -2
            sell 3 -1 2 1 = -2
            """);
        e.edge("11: of several reasons -3 comes ahead of -4", Edge.SMALL, """
            holder 3 4 1000000000
            open
            sell 3 1 1 1 = -3
            sell 3 2 1 1 = -4
            """);
    }

    private static void promise12() {
        e.edge("12: HOLDERS 0 to 9", Edge.OPENED, """
            take -1 0 = -1
            take 10 0 = -1
            take MIN 0 = -1
            take MAX 0 = -1
            take 0 1 = 0
            take 9 0 = 0
            sell 0 9 1 0
            take 9 1 = 0
            of 9 3 = 1
            """);
        e.edge("12: TAKE: how many: 0 is taken, below is none such", Edge.OPENED, """
            take 0 7 = 0
            take 0 -1 = -1
            take 0 MIN = -1
            of 0 3 = 7
            take 0 0 = 7
            of 0 3 = 0
            """);
        e.edge("12: -2: it has not so many RIGHTS", Edge.OPENED, """
            take 2 23 = -2
            take 2 MAX = -2
            take 2 22 = 0
            take 2 23 = -2
            of 2 3 = 22
            sell 0 2 1 0
            take 2 23 = 22
            take 3 1 = -2
            take 3 0 = 0
            """);
        e.edge("12: -2: whatever CASH there is", Edge.OPENED, """
            of 1 1 = 0
            take 1 50 = 0
            """);
        e.edge("12: -9, right behind NONE, ahead of -2", Edge.SMALL, """
            take 0 0 = -9
            take 0 1 = -9
            take 0 -1 = -1
            take 10 0 = -1
            open
            close
            take 0 0 = -9
            take 0 101 = -9
            take 0 -1 = -1
            done
            take 0 0 = -9
            take -1 0 = -1
            """);
        e.edge("12: more than a million", ten(100000), """
            terms 20 1 1 1
            open
            take 0 2000001 = -2
            take 0 2000000 = 0
            of 0 3 = 2000000
            """);
    }

    private static void promise13() {
        e.edge("13: HOLDERS 0 to 9", Edge.OPENED, """
            excess -1 1 = -1
            excess 10 1 = -1
            excess MIN 1 = -1
            excess MAX 1 = -1
            excess 0 1 = 0
            excess 9 2 = 0
            of 0 4 = 1
            of 9 4 = 2
            """);
        e.edge("13: EXCESS (0 at first; to 100000)", Edge.OPENED, """
            excess 0 -1 = -1
            excess 0 100001 = -1
            excess 0 MIN = -1
            excess 0 MAX = -1
            excess 0 100000 = 0
            excess 0 100001 = -1
            of 0 4 = 100000
            excess 0 0 = 100000
            excess 0 -1 = -1
            excess 0 1 = 0
            """);
        e.edge("13: -9, right behind NONE", Edge.SMALL, """
            excess 0 1 = -9
            excess 0 100001 = -1
            excess 10 1 = -1
            open
            close
            excess 0 1 = -9
            excess 0 -1 = -1
            done
            excess 0 1 = -9
            excess -1 1 = -1
            """);
    }

    private static void promise14() {
        e.edge("14: HOLDERS 0 to 9", Edge.OPENED, """
            tail -1 5 = -1
            tail 10 5 = -1
            tail MIN 5 = -1
            tail MAX 5 = -1
            sell 0 9 1 0
            tail 0 100 = 50
            tail 9 100 = 1
            """);
        e.edge("14: at q (1 to 10000)", Edge.OPENED, """
            tail 0 0 = -1
            tail 0 -1 = -1
            tail 0 10001 = -1
            tail 0 MIN = -1
            tail 0 MAX = -1
            tail 1 1 = 50
            of 1 1 = 50
            tail 0 10000 = 1
            of 0 1 = 20000
            of 0 3 = 99
            """);
        e.edge("14: -2: it has no RIGHTS", Edge.OPENED, """
            tail 3 5 = -2
            sell 0 3 1 0
            tail 3 5 = 1
            tail 3 5 = -2
            """);
        e.edge("14: -4: CASH would be above 1000000000", Edge.SMALL, """
            holder 4 8 999999990
            open
            tail 4 6 = -4
            tail 4 10000 = -4
            tail 4 5 = 2
            of 4 1 = 1000000000
            """);
        e.edge("14: -4: of several reasons -2 comes first", """
            holder 0 4 0
            holder 4 0 1000000000
            open
            tail 4 5 = -2
            sell 0 4 1 0
            tail 4 5 = -4
            """);
        e.edge("14: -4: money beyond an int: 429500 at 10000 are 4295000000", """
            terms 20 1 10000 10000
            holder 0 42950 0
            open
            tail 0 10000 = -4
            """);
        e.edge("14: -9, right behind NONE, ahead of -2, -4", Edge.SMALL, """
            tail 0 5 = -9
            tail 0 0 = -1
            tail 10 5 = -1
            open
            close
            tail 0 5 = -9
            tail 3 5 = -9
            tail 0 10001 = -1
            done
            tail 0 5 = -9
            tail -1 5 = -1
            """);
    }

    private static void promise14Fewest() {
        e.edge("14: the fewest RIGHTS whose money pays for taking up all the others at K: just", """
            terms 1 1 100 200
            holder 0 3 0
            holder 1 3 0
            holder 2 3 0
            open
            # 1 at 200 pays for 2 at 100; at 199 it does not
            tail 0 200 = 1
            of 0 1 = 200
            of 0 3 = 2
            tail 1 199 = 2
            of 1 1 = 398
            of 1 3 = 1
            # 2 at 50 pay for 1; at 49 they do not
            tail 2 50 = 2
            of 2 3 = 1
            """);
        e.edge("14: all of them, if no fewer pay", """
            terms 1 1 100 200
            holder 0 3 0
            open
            tail 0 49 = 3
            of 0 1 = 147
            of 0 2 = 0
            of 0 3 = 0
            count 4 = 3
            """);
        e.edge("14: of one RIGHT the one, whatever q", """
            terms 1 1 1 200
            holder 0 1 0
            holder 1 1 0
            open
            tail 0 10000 = 1
            tail 1 1 = 1
            of 0 3 = 0
            """);
        e.edge("14: TAKE is all the others then, whatever it was; EXCESS stays; no CASH is used", Edge.OPENED, """
            take 0 100
            excess 0 4
            tail 0 100 = 50
            of 0 3 = 50
            of 0 4 = 4
            tail 0 100 = 25
            of 0 3 = 25
            of 0 1 = 17500
            take 2 0
            tail 2 100 = 11
            of 2 3 = 11
            """);
    }

    private static void promise15Bounds() {
        String blanks = " ".repeat(70);
        e.edge("15: HOLDERS 0 to 9", Edge.OPENED, """
            tape "take 0"
            plan -1 6 = -1
            plan 10 6 = -1
            plan MIN 6 = -1
            plan MAX 6 = -1
            count 18 = 20
            plan 0 6 = 1
            plan 9 "take 0" = 1
            """);
        e.edge("15: the tape's first n bytes (1 to 80)", Edge.OPENED, "tape \"take 5" + blanks + "    ;x\"\n", """
            count 18 = 100
            plan 0 0 = -1
            plan 0 -1 = -1
            plan 0 81 = -1
            plan 0 100 = -1
            plan 0 MIN = -1
            plan 0 MAX = -1
            plan 0 80 = 1
            of 0 3 = 5
            """);
        e.edge("15: a TEXT of 1 byte", Edge.OPENED, """
            plan 0 "t" = -1000
            plan 0 " " = -1001
            plan 0 ";" = -1000
            plan 0 "7" = -1000
            """);
        e.edge("15: NONE: it has not so many (the tape stays)", Edge.OPENED, """
            plan 0 1 = -1
            tape "take 5              "
            plan 0 21 = -1
            plan 0 80 = -1
            count 18 = 20
            plan 0 20 = 1
            count 18 = 0
            plan 0 1 = -1
            """);
        e.edge("15: (empty then): the bytes behind the first n, too", Edge.OPENED, """
            tape "take 5;take 7;take 9; take 11"
            plan 0 6 = 1
            of 0 3 = 5
            count 18 = 0
            """);
        e.edge("15: the first n bytes alone", Edge.OPENED, """
            tape "take 57"
            plan 0 6 = 1
            of 0 3 = 5
            tape "take 57"
            plan 0 4 = -1004
            """);
        e.edge("15: -9 (the tape stays), right behind NONE", Edge.SMALL, """
            tape "take 5"
            plan 0 6 = -9
            plan 0 0 = -1
            plan 0 21 = -1
            plan 10 6 = -1
            count 18 = 20
            open
            close
            plan 0 6 = -9
            plan 0 4 = -9
            plan 0 81 = -1
            done
            plan 0 6 = -9
            plan -1 6 = -1
            count 18 = 20
            """);
    }

    private static void promise15Refused() {
        e.edge("15: a FAULT (none is done)", Edge.OPENED, """
            plan 0 "take 5;excess 6;sell 7 at 8;lap" = -1028
            plan 0 "take 5;" = -1007
            of 0 3 = 0
            of 0 2 = 100
            count 18 = 0
            """);
        e.edge("15: how many ORDERS were done till the end", Edge.OPENED, """
            plan 0 "take 5" = 1
            plan 0 "take 5;take 6" = 2
            plan 0 "lapse;lapse;lapse;lapse;lapse;lapse;lapse;lapse;lapse;lapse;lapse;lapse;take 7" = 13
            of 0 3 = 7
            """);
        e.edge("15: or the first that was refused: the first of all", Edge.OPENED, """
            plan 0 "take 101;excess 5" = 0
            of 0 3 = 0
            of 0 4 = 0
            count 18 = 0
            """);
        e.edge("15: or the first that was refused: what is ahead of it stays done, what is behind is not", Edge.OPENED, """
            plan 0 "take 5;sell 1 at 9;take 100;excess 5;take 6" = 2
            of 0 3 = 5
            of 0 2 = 99
            of 0 1 = 10009
            of 0 4 = 0
            """);
        e.edge("15: or the first that was refused: the last of all", Edge.OPENED, """
            plan 0 "take 5;excess 6;tail 0" = 2
            of 0 4 = 6
            """);
        e.edge("15: the first that is refused ends it: the thirteenth", Edge.OPENED, """
            plan 0 "lapse;lapse;lapse;lapse;lapse;lapse;lapse;lapse;lapse;lapse;lapse;lapse;tail 0" = 12
            """);
    }

    private static void promise15Orders() {
        e.edge("15: take N, as by call", Edge.OPENED, """
            plan 0 "take 0" = 1
            plan 0 "take 100" = 1
            plan 0 "take 101" = 0
            plan 0 "take 999999" = 0
            of 0 3 = 100
            """);
        e.edge("15: take all, also of none", Edge.OPENED, """
            plan 0 "take all" = 1
            of 0 3 = 100
            plan 3 "take all" = 1
            of 3 3 = 0
            """);
        e.edge("15: excess N, as by call", Edge.OPENED, """
            plan 0 "excess 100000" = 1
            plan 0 "excess 100001" = 0
            of 0 4 = 100000
            plan 0 "excess 0" = 1
            of 0 4 = 0
            """);
        e.edge("15: lapse (TAKE 0, EXCESS 0), also of none", Edge.OPENED, """
            take 0 5
            excess 0 6
            plan 0 "lapse" = 1
            of 0 3 = 0
            of 0 4 = 0
            of 0 2 = 100
            plan 9 "lapse" = 1
            """);
        e.edge("15: tail N (at a price N), as by call", Edge.OPENED, """
            plan 1 "tail 0" = 0
            plan 1 "tail 10001" = 0
            plan 3 "tail 5" = 0
            plan 1 "tail 1" = 1
            of 1 2 = 0
            plan 0 "tail 10000" = 1
            of 0 2 = 99
            """);
        e.edge("15: sell N at N (to THE MARKET), as by call", Edge.OPENED, """
            plan 0 "sell 0 at 5" = 0
            plan 0 "sell 101 at 5" = 0
            plan 0 "sell 999999 at 5" = 0
            plan 0 "sell 5 at 10001" = 0
            plan 0 "sell 1 at 0" = 1
            plan 0 "sell 1 at 10000" = 1
            plan 0 "sell 98 at 1" = 1
            of 0 1 = 20098
            count 4 = 100
            plan 0 "sell 1 at 1" = 0
            """);
        e.edge("15: buy N from N at N (a number of RIGHTS, a HOLDER, a price), as by call", Edge.OPENED, """
            plan 0 "buy 0 from 1 at 5" = 0
            plan 0 "buy 1 from 10 at 5" = 0
            plan 0 "buy 1 from 999999 at 5" = 0
            plan 0 "buy 1 from 0 at 5" = 0
            plan 0 "buy 51 from 1 at 5" = 0
            plan 0 "buy 1 from 9 at 5" = 0
            plan 0 "buy 1 from 1 at 10001" = 0
            plan 0 "buy 2 from 1 at 5001" = 0
            plan 0 "buy 2 from 1 at 5000" = 1
            of 0 1 = 0
            of 0 2 = 102
            of 1 1 = 10000
            plan 0 "buy 1 from 1 at 1" = 0
            plan 0 "buy 48 from 1 at 0" = 1
            of 1 2 = 0
            """);
        e.edge("15: buy: TAKE of who sells is no more than its RIGHTS then", Edge.OPENED, """
            take 1 50
            plan 0 "buy 1 from 1 at 0" = 1
            of 1 3 = 49
            """);
        e.edge("15: sell, buy, tail: CASH of who sells would be above 1000000000", """
            holder 0 8 1000000000
            holder 1 0 5
            open
            plan 0 "sell 1 at 1" = 0
            plan 0 "tail 1" = 0
            plan 1 "buy 1 from 0 at 1" = 0
            plan 0 "sell 1 at 0" = 1
            plan 1 "buy 1 from 0 at 0" = 1
            """);
    }
}
