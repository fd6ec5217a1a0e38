/** Boundary cases of promises 16 to 24, sentence by sentence. */
public final class EdgeStandsTest {
    private static final Edge e = new Edge();

    /** HOLDER 0 has 2000000 RIGHTS and no CASH, HOLDER 1 has CASH alone; K 10000. */
    private static final String LARGE = """
        terms 20 1 10000 10000
        holder 0 100000 0
        holder 1 0 1000000000
        open
        """;

    public static void main(String[] args) {
        promise16Bounds();
        promise16Refused();
        promise16Meets();
        promise16OrBetter();
        promise16Least();
        promise16Twelve();
        promise17();
        promise18();
        promise19();
        promise20();
        promise21();
        promise22();
        promise23();
        promise24();
        e.end();
    }

    /** Ten HOLDERS with 100 RIGHTS each; K 100. */
    private static String ten(int cash) {
        StringBuilder text = new StringBuilder();
        for (int h = 0; h < 10; h++) {
            text.append("holder ").append(h).append(" 400 ").append(cash).append('\n');
        }
        return text.append("open\n").toString();
    }

    /** Twelve STANDS of one RIGHT each, to be sold at 100, 101, .. by HOLDERS 0 to 8. */
    private static String twelve() {
        StringBuilder text = new StringBuilder(ten(100000));
        for (int i = 0; i < 12; i++) {
            text.append("stand ").append(i % 9).append(" true 1 ").append(100 + i).append('\n');
        }
        return text.toString();
    }

    private static void promise16Bounds() {
        e.edge("16: HOLDERS 0 to 9", ten(1000), """
            stand -1 true 1 5 = -1
            stand 10 true 1 5 = -1
            stand MIN false 1 5 = -1
            stand MAX false 1 5 = -1
            stand 0 true 1 50 = 0
            stand 9 true 1 50 = 0
            standing 0 0 = 0
            standing 1 0 = 9
            """);
        e.edge("16: so many RIGHTS (1 to 1000000): sells", LARGE, """
            stand 0 true 0 5 = -1
            stand 0 true -1 5 = -1
            stand 0 true 1000001 5 = -1
            stand 0 true MIN 5 = -1
            stand 0 true MAX 5 = -1
            stand 0 true 1 5 = 0
            stand 0 true 1000000 5 = 0
            standing 1 2 = 1000000
            """);
        e.edge("16: so many RIGHTS (1 to 1000000): buys", LARGE, """
            stand 1 false 0 5 = -1
            stand 1 false -1 5 = -1
            stand 1 false 1000001 5 = -1
            stand 1 false MIN 5 = -1
            stand 1 false MAX 5 = -1
            stand 1 false 1 5 = 0
            stand 1 false 1000000 5 = 0
            standing 1 2 = 1000000
            """);
        e.edge("16: at q each (1 to 10000)", ten(10000), """
            stand 0 true 1 0 = -1
            stand 0 true 1 -1 = -1
            stand 0 true 1 10001 = -1
            stand 0 false 1 0 = -1
            stand 0 false 1 10001 = -1
            stand 0 true 1 MIN = -1
            stand 0 false 1 MAX = -1
            stand 0 true 1 10000 = 0
            stand 1 false 1 1 = 0
            standing 0 3 = 10000
            standing 1 3 = 1
            stand 2 true 1 1 = 1
            stand 3 false 1 10000 = 1
            """);
    }

    private static void promise16Refused() {
        e.edge("16: -2: it has not so many RIGHTS (sells)", Edge.OPENED, """
            stand 2 true 23 5 = -2
            stand 2 true 1000000 5 = -2
            stand 2 true 22 5 = 0
            stand 3 true 1 5 = -2
            """);
        e.edge("16: -2: STANDS that stand take none of its RIGHTS", Edge.OPENED, """
            stand 2 true 22 5 = 0
            stand 2 true 22 6 = 0
            stand 2 true 23 6 = -2
            """);
        e.edge("16: -2 is of sells alone", Edge.OPENED, """
            stand 2 false 1000 100 = 0
            """);
        e.edge("16: -3: it has not CASH for all (buys)", Edge.OPENED, """
            stand 0 false 100 101 = -3
            stand 0 false 101 100 = -3
            stand 0 false 100 100 = 0
            stand 1 false 1 1 = -3
            """);
        e.edge("16: -3: STANDS that stand take none of its CASH", Edge.OPENED, """
            stand 0 false 100 100 = 0
            stand 0 false 100 100 = 0
            traded 6 = 2
            """);
        e.edge("16: -3 is of buys alone", Edge.OPENED, """
            stand 1 true 50 10000 = 0
            """);
        e.edge("16: -3: it has not CASH for all at its own q, though it would pay less", ten(100), """
            stand 1 true 2 1
            stand 0 false 2 51 = -3
            stand 0 false 2 50 = 2
            of 0 1 = 98
            """);
        e.edge("16: -3: money beyond an int: 429497 at 10000 are 4294970000", LARGE, """
            stand 1 false 429497 10000 = -3
            stand 1 false 1000000 10000 = -3
            stand 1 false 100001 10000 = -3
            stand 1 false 100000 10000 = 0
            """);
        e.edge("16: -9: not NIL PAID, right behind NONE, ahead of -2, -3", Edge.SMALL, """
            stand 0 true 1 5 = -9
            stand 0 true 1000000 5 = -9
            stand 1 false 1 5 = -9
            stand 0 true 0 5 = -1
            stand 0 true 1 0 = -1
            open
            close
            stand 0 true 1 5 = -9
            stand 10 true 1 5 = -1
            done
            stand 0 true 1 5 = -9
            stand 0 true 1000001 5 = -1
            """);
        e.edge("16: none when OPENED, none once CLOSED", Edge.OPENED, """
            traded 6 = 0
            stand 0 true 5 50 = 0
            traded 6 = 1
            close
            traded 6 = 0
            standing 0 0 = -1
            done
            anew
            traded 6 = 0
            open
            traded 6 = 0
            """);
    }

    private static void promise16Meets() {
        e.edge("16: STANDS of the other kind", ten(1000), """
            stand 0 true 5 10 = 0
            stand 1 true 5 10 = 0
            stand 2 false 5 9 = 0
            stand 3 false 5 9 = 0
            traded 6 = 4
            traded 0 = 0
            """);
        e.edge("16: of other HOLDERS", ten(1000), """
            stand 0 true 5 10 = 0
            stand 0 false 5 10 = 0
            traded 6 = 2
            stand 1 false 5 10 = 5
            stand 1 true 5 10 = 5
            of 0 2 = 100
            of 1 2 = 100
            traded 6 = 0
            """);
        e.edge("16: the best one first: who buys the least", ten(1000), """
            stand 1 true 1 12
            stand 2 true 1 10
            stand 3 true 1 11
            stand 0 false 2 12 = 2
            of 0 1 = 979
            standing 0 0 = 1
            traded 6 = 1
            """);
        e.edge("16: the best one first: who sells the greatest", ten(1000), """
            stand 1 false 1 10
            stand 2 false 1 12
            stand 3 false 1 11
            stand 0 true 2 10 = 2
            of 0 1 = 1023
            standing 0 0 = 1
            traded 6 = 1
            """);
        e.edge("16: of like ones the eldest: sold", ten(1000), """
            stand 3 true 2 10
            stand 1 true 2 10
            stand 0 false 3 10 = 3
            of 3 2 = 98
            of 1 2 = 99
            standing 0 0 = 1
            standing 0 2 = 1
            """);
        e.edge("16: of like ones the eldest: bought", ten(1000), """
            stand 3 false 2 10
            stand 1 false 2 10
            stand 0 true 3 10 = 3
            of 3 2 = 102
            of 1 2 = 101
            standing 0 0 = 1
            """);
        e.edge("16: each once", """
            holder 0 400 999999975
            holder 1 400 1000
            open
            stand 1 false 50 10
            stand 0 true 50 10 = 2
            standing 0 2 = 48
            standing 1 2 = 48
            """);
        e.edge("16: at the price of that one", ten(1000), """
            stand 1 true 1 7
            stand 0 false 1 10 = 1
            of 0 1 = 993
            stand 2 false 1 10
            stand 3 true 1 7 = 1
            of 3 1 = 1010
            """);
        e.edge("16: TAKE of who sells is no more than its RIGHTS then", ten(1000), """
            take 1 100
            take 2 95
            stand 1 true 3 10
            stand 2 true 3 10
            stand 0 false 6 10 = 6
            of 1 3 = 97
            of 2 3 = 95
            stand 3 false 5 10
            stand 2 true 5 10 = 5
            of 2 3 = 92
            """);
        e.edge("16: what is left of it STANDS behind the others; those that have nothing left are gone", ten(1000), """
            stand 1 true 3 10
            stand 2 true 3 20
            stand 0 false 5 10 = 3
            standing 0 0 = 2
            standing 1 0 = 0
            standing 1 1 = 0
            standing 1 2 = 2
            standing 1 3 = 10
            traded 6 = 2
            """);
        e.edge("16: nothing is left of it: it does not STAND", ten(1000), """
            stand 1 true 3 10
            stand 0 false 3 10 = 3
            traded 6 = 0
            """);
    }

    private static void promise16OrBetter() {
        e.edge("16: at q or better for it: who buys meets q, not q and 1", ten(1000), """
            stand 1 true 1 11
            stand 0 false 1 10 = 0
            stand 2 false 1 11 = 1
            """);
        e.edge("16: at q or better for it: who sells meets q, not q less 1", ten(1000), """
            stand 1 false 1 9
            stand 0 true 1 10 = 0
            stand 2 true 1 9 = 1
            """);
        e.edge("16: at q or better for it: at 1 and 10000", ten(10000), """
            stand 1 true 1 10000
            stand 2 false 1 1
            stand 3 false 1 9999 = 0
            stand 3 false 1 10000 = 1
            stand 4 true 1 2 = 0
            withdraw 1
            stand 4 true 1 1 = 1
            """);
    }

    private static void promise16Least() {
        e.edge("16: as the least of: what both are for still: the new one's", ten(1000), """
            stand 1 true 5 10
            stand 0 false 4 10 = 4
            standing 0 2 = 1
            """);
        e.edge("16: as the least of: what both are for still: the other's", ten(1000), """
            stand 1 true 4 10
            stand 0 false 5 10 = 4
            standing 0 0 = 0
            standing 0 2 = 1
            """);
        e.edge("16: as the least of: RIGHTS of who sells", ten(1000), """
            stand 1 true 10 10
            sell 1 -1 97 0
            stand 0 false 10 10 = 3
            of 1 2 = 0
            standing 0 2 = 7
            standing 1 2 = 7
            """);
        e.edge("16: as the least of: RIGHTS of who sells: it has none", ten(1000), """
            stand 1 true 10 10
            sell 1 -1 100 0
            stand 0 false 10 10 = 0
            traded 2 = 0
            traded 6 = 2
            """);
        e.edge("16: as the least of: CASH of who buys through the price (cut)", ten(1000), """
            stand 1 false 10 10
            sell 2 1 1 961
            of 1 1 = 39
            stand 0 true 10 10 = 3
            of 1 1 = 9
            standing 0 2 = 7
            """);
        e.edge("16: as the least of: CASH of who buys through the price: just", ten(1000), """
            stand 1 false 10 10
            sell 2 1 1 960
            stand 0 true 10 10 = 4
            of 1 1 = 0
            """);
        e.edge("16: as the least of: CASH of who buys: none", ten(1000), """
            stand 1 false 10 10
            sell 2 1 1 1000
            stand 0 true 10 10 = 0
            traded 6 = 2
            """);
        e.edge("16: as the least of: (1000000000 less CASH of who sells) through the price (cut)", """
            holder 0 400 999999971
            holder 1 400 1000
            open
            stand 1 false 50 10
            stand 0 true 50 10 = 2
            of 0 1 = 999999991
            """);
        e.edge("16: as the least of: (1000000000 less CASH of who sells) through the price: just", """
            holder 0 400 999999970
            holder 1 400 1000
            open
            stand 1 false 50 10
            stand 0 true 50 10 = 3
            of 0 1 = 1000000000
            stand 0 true 5 10 = 0
            """);
        e.edge("16: as the least of: 1000000000 less CASH of who stood and sells", """
            holder 0 400 999999985
            holder 1 400 1000
            open
            stand 0 true 50 10
            stand 1 false 50 10 = 1
            of 0 1 = 999999995
            """);
        e.edge("16: what has gone over by one STAND is missing for the next", ten(1000), """
            stand 1 true 3 10
            stand 2 true 3 10
            stand 3 true 3 10
            stand 0 false 7 10 = 7
            of 3 2 = 99
            of 0 1 = 930
            """);
        e.edge("16: CASH left after the best one", ten(1000), """
            stand 1 false 5 20
            stand 1 false 60 10
            sell 2 1 1 880
            # 120 are left: 5 at 20, 2 at 10
            stand 0 true 20 10 = 7
            of 1 1 = 0
            traded 1 = 120
            """);
        e.edge("16: a million at once", LARGE, """
            stand 0 true 1000000 1000
            stand 1 false 1000000 1000 = 1000000
            of 0 1 = 1000000000
            of 1 1 = 0
            of 1 2 = 1000000
            traded 1 = 1000000000
            """);
    }

    private static void promise16Twelve() {
        e.edge("16: A STAND (12 at most): the twelfth stands", twelve(), """
            traded 6 = 12
            standing 11 3 = 111
            """);
        e.edge("16: if there are fewer than 12 then: a 13th is not refused, and does not stand", twelve(), """
            stand 9 true 1 500 = 0
            traded 6 = 12
            standing 12 0 = -1
            stand 9 false 1 99 = 0
            traded 6 = 12
            standing 11 3 = 111
            """);
        e.edge("16: if there are fewer than 12 then: it meets one that is gone then", twelve(), """
            stand 9 false 2 100 = 1
            traded 6 = 12
            standing 0 3 = 101
            standing 11 0 = 9
            standing 11 2 = 1
            """);
        e.edge("16: if there are fewer than 12 then: it meets one that stays", twelve(), """
            withdraw 0
            stand 8 true 3 50 = 0
            stand 9 false 2 50 = 2
            traded 6 = 12
            stand 9 false 2 50 = 1
            traded 6 = 12
            standing 11 0 = 9
            """);
        e.edge("16: full, and one that cannot sell stays: what is left of the new one is not kept", twelve(), """
            sell 0 -1 100 0
            stand 9 false 1 100 = 0
            traded 6 = 12
            standing 0 0 = 0
            standing 11 0 = 2
            """);
        e.edge("16: it meets twelve", twelve(), """
            stand 9 false 13 111 = 12
            traded 6 = 1
            standing 0 0 = 9
            standing 0 2 = 1
            """);
        e.edge("16: after one is withdrawn there is room", twelve(), """
            withdraw 11
            stand 9 true 1 500 = 0
            traded 6 = 12
            standing 11 0 = 9
            """);
    }

    private static void promise17() {
        e.edge("17: NONE: no such STAND: without any", Edge.OPENED, """
            standing 0 0 = -1
            standing -1 0 = -1
            """);
        e.edge("17: of STAND i (from the eldest on)", ten(1000), """
            stand 3 true 7 90
            stand 4 false 8 80
            standing -1 0 = -1
            standing MIN 0 = -1
            standing 0 0 = 3
            standing 1 0 = 4
            standing 2 0 = -1
            standing MAX 0 = -1
            """);
        e.edge("17: of STAND i: twelve of them", twelve(), """
            standing 0 3 = 100
            standing 11 3 = 111
            standing 12 3 = -1
            """);
        e.edge("17: what 0 to 3", ten(1000), """
            stand 3 true 7 90
            stand 4 false 8 80
            standing 0 -1 = -1
            standing 0 0 = 3
            standing 0 1 = 1
            standing 1 1 = 0
            standing 0 2 = 7
            standing 0 3 = 90
            standing 0 4 = -1
            standing 0 MIN = -1
            standing 0 MAX = -1
            standing 2 4 = -1
            """);
    }

    private static void promise18() {
        e.edge("18: false: there is none such", ten(1000), """
            withdraw 0 = false
            withdraw -1 = false
            stand 3 true 7 90
            stand 4 false 8 80
            withdraw -1 = false
            withdraw 2 = false
            withdraw MIN = false
            withdraw MAX = false
            traded 6 = 2
            withdraw 1 = true
            withdraw 1 = false
            withdraw 0 = true
            withdraw 0 = false
            traded 6 = 0
            """);
        e.edge("18: STAND i is gone: of twelve the last and the eldest", twelve(), """
            withdraw 12 = false
            withdraw 11 = true
            withdraw 11 = false
            withdraw 0 = true
            traded 6 = 10
            standing 0 3 = 101
            standing 9 3 = 110
            standing 10 3 = -1
            """);
        e.edge("18: none once CLOSED, none BEFORE", Edge.SMALL, """
            withdraw 0 = false
            open
            stand 0 true 1 5
            close
            withdraw 0 = false
            done
            withdraw 0 = false
            """);
    }

    private static void promise19() {
        e.edge("19: what 0 to 6; NONE for others", Edge.OPENED, """
            traded -1 = -1
            traded 7 = -1
            traded MIN = -1
            traded MAX = -1
            traded 0 = 0
            traded 6 = 0
            """);
        e.edge("19: (0: none)", Edge.OPENED, """
            traded 1 = 0
            traded 2 = 0
            traded 3 = 0
            traded 4 = 0
            traded 5 = 0
            """);
        e.edge("19: BEFORE", """
            traded 0 = 0
            traded 3 = 0
            traded 6 = 0
            traded 7 = -1
            """);
        e.edge("19: the mean price, cut", ten(1000), """
            stand 1 true 1 10
            stand 2 true 2 11
            stand 0 false 3 11 = 3
            traded 0 = 3
            traded 1 = 32
            traded 2 = 11
            traded 3 = 10
            stand 3 true 1 13
            stand 0 false 1 13 = 1
            traded 3 = 11
            traded 2 = 13
            """);
        e.edge("19: the latest price: of the last that was met, not the dearest", ten(1000), """
            stand 1 false 1 10
            stand 2 false 1 12
            stand 0 true 2 10 = 2
            traded 2 = 10
            """);
        e.edge("19: the latest price: one by whom none went over does not count", ten(1000), """
            stand 1 true 1 10
            stand 2 true 1 11
            sell 2 -1 100 0
            stand 0 false 2 11 = 1
            traded 2 = 10
            """);
        e.edge("19: the least price at which one would sell, the greatest at which one would buy", ten(10000), """
            stand 1 true 1 10000
            traded 4 = 10000
            traded 5 = 0
            stand 2 false 1 1
            traded 5 = 1
            stand 3 true 1 9999
            traded 4 = 9999
            stand 4 false 1 2
            traded 5 = 2
            withdraw 0
            withdraw 0
            traded 4 = 9999
            traded 5 = 2
            withdraw 0
            traded 4 = 0
            withdraw 0
            traded 5 = 0
            """);
        e.edge("19: since OPENED: CLOSED and DONE tell it still, anew not", Edge.OPENED, """
            stand 1 true 5 7
            stand 0 false 5 7
            close
            traded 0 = 5
            traded 1 = 35
            traded 2 = 7
            traded 3 = 7
            traded 4 = 0
            done
            traded 0 = 5
            anew
            traded 0 = 0
            traded 1 = 0
            traded 2 = 0
            traded 3 = 0
            """);
        e.edge("19: money beyond an int", """
            terms 20 1 10000 10000
            holder 0 100000 0
            holder 1 0 1000000000
            holder 2 0 1000000000
            holder 3 0 1000000000
            open
            sell 0 4 1000000 0
            sell 0 5 1000000 0
            stand 0 true 100000 10000 = -2
            stand 4 true 100000 10000
            stand 5 true 100000 10000
            stand 1 false 100000 10000 = 100000
            stand 2 false 100000 10000 = 100000
            sell 5 6 100000 0
            stand 6 true 100000 10000
            stand 3 false 100000 10000 = 100000
            traded 0 = 300000
            traded 1 = 3000000000
            traded 3 = 10000
            """);
    }

    private static void promise20() {
        e.edge("20: NONE: no such q (1 to 10000)", Edge.OPENED, """
            depth true 0 = -1
            depth true -1 = -1
            depth true 10001 = -1
            depth false 0 = -1
            depth false 10001 = -1
            depth true MIN = -1
            depth false MAX = -1
            depth true 1 = 0
            depth true 10000 = 0
            depth false 1 = 0
            depth false 10000 = 0
            """);
        e.edge("20: to be sold at q or less", ten(10000), """
            stand 1 true 5 50
            stand 2 true 7 1
            stand 3 true 9 10000
            depth true 49 = 7
            depth true 50 = 12
            depth true 1 = 7
            depth true 9999 = 12
            depth true 10000 = 21
            depth false 1 = 0
            """);
        e.edge("20: to be bought at q or more", ten(100000), """
            stand 1 false 5 50
            stand 2 false 7 1
            stand 3 false 9 10000
            depth false 50 = 14
            depth false 51 = 9
            depth false 1 = 21
            depth false 2 = 14
            depth false 10000 = 9
            depth true 10000 = 0
            """);
        e.edge("20: how many RIGHTS STAND: whatever these have", ten(1000), """
            stand 1 true 5 50
            sell 1 -1 100 0
            depth true 50 = 5
            """);
        e.edge("20: in every STAGE", Edge.SMALL, """
            depth true 5 = 0
            depth true 0 = -1
            open
            stand 0 true 1 5
            close
            depth true 5 = 0
            depth true 10001 = -1
            done
            depth true 5 = 0
            """);
    }

    private static void promise21() {
        e.edge("21: HOLDERS 0 to 9", ten(1000), """
            stand 5 true 1 7
            costOf -1 1 = -1
            costOf 10 1 = -1
            costOf MIN 1 = -1
            costOf MAX 1 = -1
            costOf 0 1 = 7
            costOf 9 1 = 7
            """);
        e.edge("21: so many RIGHTS (1 to 1000000)", LARGE, """
            stand 0 true 1000000 10000
            stand 0 true 1 1
            costOf 1 0 = -1
            costOf 1 -1 = -1
            costOf 1 1000001 = -1
            costOf 1 MIN = -1
            costOf 1 MAX = -1
            costOf 1 1 = 1
            costOf 1 1000000 = 9999990001
            """);
        e.edge("21: -2: there are not so many", ten(1000), """
            costOf 0 1 = -2
            stand 1 true 5 10
            stand 2 true 6 20
            stand 0 true 7 2
            stand 3 false 8 1
            costOf 0 11 = 170
            costOf 0 12 = -2
            costOf 4 18 = 184
            costOf 4 19 = -2
            """);
        e.edge("21: the best first, of like ones the eldest: at the seam of two", ten(1000), """
            stand 1 true 5 20
            stand 2 true 6 10
            costOf 0 6 = 60
            costOf 0 7 = 80
            """);
        e.edge("21: (whatever these have, whatever CASH there is)", ten(0), """
            stand 1 true 100 10000
            sell 1 -1 100 0
            costOf 0 100 = 1000000
            """);
        e.edge("21: twelve of them", twelve(), """
            costOf 9 12 = 1266
            costOf 9 13 = -2
            """);
        e.edge("21: -9: not NIL PAID, right behind NONE, ahead of -2", Edge.SMALL, """
            costOf 0 1 = -9
            costOf 0 0 = -1
            costOf 10 1 = -1
            open
            close
            costOf 0 1 = -9
            costOf 0 1000001 = -1
            done
            costOf 0 1 = -9
            costOf -1 1 = -1
            """);
    }

    private static void promise22() {
        e.edge("22: HOLDERS 0 to 9", Edge.OPENED, """
            needs -1 1 = -1
            needs 10 1 = -1
            needs MIN 1 = -1
            needs MAX 1 = -1
            needs 0 1 = 0
            needs 9 1 = -2
            """);
        e.edge("22: so much (1 to 1000000 millionths)", """
            holder 0 4 0
            open
            needs 0 0 = -1
            needs 0 -1 = -1
            needs 0 1000001 = -1
            needs 0 MIN = -1
            needs 0 MAX = -1
            needs 0 1 = 0
            needs 0 1000000 = 1
            """);
        e.edge("22: (0: none): it has so much", Edge.OPENED, """
            # 400 of 865 are 462427.7 millionths
            needs 0 462427 = 0
            needs 0 462428 = 1
            """);
        e.edge("22: so much or more: just", """
            holder 0 800 0
            open
            # 801 of 1000
            needs 0 800000 = 0
            needs 0 800001 = 1
            needs 0 801000 = 1
            needs 0 801001 = 2
            needs 0 999999 = 200
            """);
        e.edge("22: so much or more: by a millionth of a SHARE", """
            terms 1 2 1 1
            holder 0 2 0
            open
            # two of three are 666666.6 millionths
            needs 0 666666 = 0
            needs 0 666667 = 1
            """);
        e.edge("22: -2: it has not so many", Edge.OPENED, """
            # 500 of 865 are 578034.6 millionths
            needs 0 578034 = 100
            needs 0 578035 = -2
            sell 0 2 1 0
            needs 0 578034 = -2
            needs 0 1000000 = -2
            """);
        e.edge("22: -2: none without SHARES and RIGHTS", Edge.OPENED, """
            needs 3 1 = -2
            sell 0 3 1 0
            needs 3 1 = 1
            needs 3 1156 = 1
            needs 3 1157 = -2
            """);
        e.edge("22: of the most SHARES", LARGE, """
            needs 0 47619 = 0
            needs 0 47620 = 2
            needs 0 1000000 = 2000000
            needs 1 1 = -2
            """);
        e.edge("22: -9: not NIL PAID, right behind NONE, ahead of -2", Edge.SMALL, """
            needs 0 1 = -9
            needs 3 1 = -9
            needs 0 0 = -1
            needs 10 1 = -1
            open
            close
            needs 0 1 = -9
            needs 0 1000001 = -1
            done
            needs 0 1 = -9
            needs -1 1 = -1
            """);
    }

    private static void promise23() {
        e.edge("23: HOLDERS 0 to 9", ten(1000), """
            stand 5 true 1 7
            buyable -1 = -1
            buyable 10 = -1
            buyable MIN = -1
            buyable MAX = -1
            buyable 0 = 1
            buyable 9 = 1
            """);
        e.edge("23: of STANDS of others: none", ten(1000), """
            buyable 0 = 0
            stand 0 true 5 2
            stand 1 false 5 1
            buyable 0 = 0
            buyable 1 = 5
            """);
        e.edge("23: with CASH left for K for each of them: just, and a penny less", ten(1000), """
            # K 100
            stand 1 true 5 150
            buyable 0 = 4
            sell 2 0 1 1
            buyable 0 = 3
            """);
        e.edge("23: with CASH left for K: not even one", ten(100), """
            stand 1 true 5 1
            buyable 0 = 0
            sell 0 2 1 1
            buyable 0 = 1
            """);
        e.edge("23: the best first: one that is too dear ends it", ten(1000), """
            stand 1 true 3 100
            stand 2 true 3 300
            stand 3 true 3 301
            # 3 at 200 leave 400
            buyable 0 = 4
            sell 4 0 1 1
            buyable 0 = 3
            """);
        e.edge("23: (whatever these have)", ten(1000), """
            stand 1 true 3 100
            sell 1 -1 100 0
            buyable 0 = 3
            """);
        e.edge("23: twelve of them", twelve(), """
            buyable 9 = 12
            """);
        e.edge("23: the most", LARGE, """
            buyable 1 = 0
            stand 0 true 1000000 1
            # 1000000000 through 10001
            buyable 1 = 99990
            """);
        e.edge("23: -9: not NIL PAID, right behind NONE", Edge.SMALL, """
            buyable 0 = -9
            buyable 10 = -1
            open
            close
            buyable 0 = -9
            buyable -1 = -1
            done
            buyable 0 = -9
            buyable 10 = -1
            """);
    }

    private static void promise24() {
        e.edge("24: HOLDERS 0 to 9", Edge.OPENED, """
            thinned -1 true = -1
            thinned 10 false = -1
            thinned MIN true = -1
            thinned MAX false = -1
            thinned 0 true = 578034
            thinned 0 false = 462427
            thinned 9 true = 0
            thinned 9 false = 0
            """);
        e.edge("24: were all its RIGHTS taken up: all there is", """
            holder 0 4 0
            open
            thinned 0 true = 1000000
            thinned 0 false = 800000
            """);
        e.edge("24: were all its RIGHTS taken up: without RIGHTS, whatever TAKE and CASH", Edge.OPENED, """
            thinned 1 true = 291329
            take 1 10
            thinned 1 true = 291329
            sell 1 0 50 0
            thinned 1 true = 233526
            thinned 1 false = 233526
            """);
        e.edge("24: -9: not NIL PAID, right behind NONE", Edge.SMALL, """
            thinned 0 true = -9
            thinned 10 true = -1
            open
            close
            thinned 0 false = -9
            thinned -1 true = -1
            done
            thinned 0 true = -9
            thinned 10 false = -1
            """);
    }
}
