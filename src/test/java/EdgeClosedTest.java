/** Boundary cases of promises 25 to 27, sentence by sentence; those of the BOOK's text are in EdgeTextsTest. */
public final class EdgeClosedTest {
    private static final Edge e = new Edge();

    /** 1 for 1 at 10: HOLDER 0 has no CASH, so LEFT is its 10 RIGHTS; 1, 2, 3 may ask for 100 each. */
    private static final String TEN_LEFT = """
        terms 1 1 10 20
        holder 0 10 0
        holder 1 0 1000
        holder 2 0 1000
        holder 3 0 1000
        """;

    /** 1 for 1 at 10: LEFT is 20 of HOLDER 0; HELD of 1 is 30, of 2 is 10, of 3 none; all of theirs are taken up. */
    private static final String TWENTY_LEFT = """
        terms 1 1 10 20
        holder 0 20 0
        holder 1 30 1000
        holder 2 10 1000
        holder 3 0 1000
        rule 1
        open
        take 1 30
        take 2 10
        """;

    /** The same with LEFT of HOLDER 9; 0, 1, 2 may ask for 100 each. */
    private static final String NINE_LEFT = """
        terms 1 1 10 20
        holder 9 10 0
        holder 0 0 1000
        holder 1 0 1000
        holder 2 0 1000
        """;

    public static void main(String[] args) {
        promise25TakenUp();
        promise25Asked();
        promise25ByAsked();
        promise25ByHeld();
        promise25Level();
        promise25Rump();
        promise27Stages();
        promise27Strike();
        promise27Have();
        promise27Premium();
        promise27Layers();
        promise27Fees();
        promise27Raised();
        e.end();
    }

    private static void promise25TakenUp() {
        e.edge("25: -9: not NIL PAID", Edge.SMALL, """
            close = -9
            open
            close = 173
            close = -9
            done
            close = -9
            anew
            close = -9
            """);
        e.edge("25: the least of TAKE, RIGHTS, CASH through K: TAKE", Edge.OPENED, """
            take 0 99
            close = 74
            of 0 6 = 99
            of 0 7 = 1
            of 0 0 = 499
            of 0 1 = 100
            """);
        e.edge("25: the least of TAKE, RIGHTS, CASH through K: all of them are the same", Edge.OPENED, """
            take 0 100
            close = 73
            of 0 6 = 100
            of 0 7 = 0
            of 0 1 = 0
            """);
        e.edge("25: the least of TAKE, RIGHTS, CASH through K (cut): a penny is missing", """
            holder 0 400 9999
            open
            take 0 100
            close = 1
            of 0 6 = 99
            of 0 7 = 1
            of 0 1 = 99
            """);
        e.edge("25: the least of TAKE, RIGHTS, CASH through K: CASH for none", """
            holder 0 400 99
            open
            take 0 100
            close = 100
            of 0 6 = 0
            of 0 7 = 100
            of 0 1 = 99
            """);
        e.edge("25: the least of TAKE, RIGHTS, CASH through K: CASH for one", """
            holder 9 400 100
            open
            take 9 100
            close = 99
            of 9 6 = 1
            of 9 1 = 0
            """);
        e.edge("25: TAKE 0: all RIGHTS are LAPSED, whatever CASH", Edge.OPENED, """
            close = 173
            of 2 6 = 0
            of 2 7 = 22
            of 2 1 = 100000
            of 3 7 = 0
            """);
        e.edge("25: RIGHTS, TAKE, EXCESS stay as they were", Edge.OPENED, """
            take 0 60
            excess 0 500
            close = 73
            of 0 2 = 100
            of 0 3 = 60
            of 0 4 = 500
            """);
        e.edge("25: THE MARKET takes up all its RIGHTS", Edge.OPENED, """
            sell 0 -1 100 0
            sell 1 -1 50 0
            sell 2 -1 22 0
            close = 1
            count 4 = 172
            count 5 = 1
            done
            # 172 at 100
            count 15 = 17200
            """);
        e.edge("25: LEFT: all LAPSED and FRACTIONS: FRACTIONS alone", """
            holder 0 2 1000
            holder 1 2 1000
            open
            close = 1
            count 5 = 1
            """);
        e.edge("25: LEFT: none", """
            holder 0 400 10000
            open
            take 0 100
            close = 0
            count 5 = 0
            count 8 = 0
            """);
        e.edge("25: beyond 100000 SHARES", """
            terms 20 1 1 1
            holder 0 100000 1000000000
            open
            take 0 2000000
            close = 0
            of 0 0 = 2100000
            of 0 1 = 998000000
            count 1 = 2100000
            """);
    }

    private static void promise25Asked() {
        e.edge("25: ASKED: EXCESS", Edge.OPENED, """
            excess 2 7
            close = 166
            of 2 8 = 7
            of 2 9 = 7
            of 2 0 = 97
            of 2 1 = 99300
            """);
        e.edge("25: ASKED: no more than CASH through K (cut): just", """
            holder 0 400 0
            holder 1 0 500
            open
            excess 1 5
            close = 95
            of 1 8 = 5
            of 1 1 = 0
            """);
        e.edge("25: ASKED: no more than CASH through K (cut): a penny is missing", """
            holder 0 400 0
            holder 1 0 499
            open
            excess 1 5
            close = 96
            of 1 8 = 4
            of 1 1 = 99
            """);
        e.edge("25: ASKED: no more than CASH that is left when it has taken up", """
            holder 0 400 0
            holder 1 40 1350
            open
            take 1 10
            excess 1 100
            close = 97
            of 1 6 = 10
            of 1 8 = 3
            of 1 1 = 50
            """);
        e.edge("25: ASKED: without CASH none", Edge.OPENED, """
            excess 1 5
            close = 173
            of 1 4 = 5
            of 1 8 = 0
            of 1 9 = 0
            """);
        e.edge("25: if all ASKED together are no more than LEFT: as many", TEN_LEFT, """
            open
            excess 1 6
            excess 2 4
            close = 0
            count 5 = 10
            count 6 = 10
            count 7 = 10
            of 1 9 = 6
            of 2 9 = 4
            """);
        e.edge("25: if all ASKED together are no more than LEFT: one more is scaled", TEN_LEFT, """
            open
            excess 1 6
            excess 2 5
            close = 0
            count 6 = 11
            count 7 = 10
            # 60 / 11 and 50 / 11, one is left over
            of 1 9 = 6
            of 2 9 = 4
            """);
        e.edge("25: if all ASKED together are no more than LEFT: one fewer leaves a RUMP", TEN_LEFT, """
            open
            excess 1 6
            excess 2 3
            close = 1
            count 6 = 9
            count 7 = 9
            count 8 = 1
            """);
        e.edge("25: the RULE does not matter where all have what they ASKED", TEN_LEFT, """
            open
            excess 1 7
            excess 2 3
            ifClosed 0 11 = 7
            ifClosed 1 11 = 7
            ifClosed 2 11 = 7
            """);
        e.edge("25: of LEFT 0 none has any, by every RULE", """
            terms 1 1 10 20
            holder 0 10 1000
            open
            take 0 10
            excess 0 5
            ifClosed 0 10 = 0
            ifClosed 1 10 = 0
            ifClosed 2 10 = 0
            close = 0
            of 0 8 = 5
            of 0 9 = 0
            of 0 1 = 900
            """);
        e.edge("25: of LEFT 1 one has it, by every RULE", """
            terms 1 1 10 20
            holder 0 1 0
            holder 4 0 1000
            holder 5 0 1000
            open
            excess 4 5
            excess 5 9
            ifClosed 0 14 = 1
            ifClosed 1 14 = 1
            ifClosed 2 14 = 1
            ifClosed 0 15 = 0
            ifClosed 1 15 = 0
            ifClosed 2 15 = 0
            """);
    }

    private static void promise25ByAsked() {
        e.edge("25: 0 BY ASKED: LEFT times ASKED through all ASKED, cut: nothing is left over", TEN_LEFT, """
            open
            excess 1 12
            excess 2 8
            close = 0
            of 1 9 = 6
            of 2 9 = 4
            """);
        e.edge("25: 0 BY ASKED: one by one, by numbers, round by round: two are left over", TEN_LEFT, """
            open
            excess 1 7
            excess 2 7
            excess 3 7
            # 70 / 21 is 3.3: one is left over
            close = 0
            of 1 9 = 4
            of 2 9 = 3
            of 3 9 = 3
            """);
        e.edge("25: 0 BY ASKED: what is left over goes to those that have less than they ASKED", """
            terms 1 1 10 20
            holder 0 8 0
            holder 1 0 1000
            holder 2 0 1000
            holder 3 0 1000
            open
            excess 1 1
            excess 2 5
            excess 3 3
            # 8 / 9, 40 / 9, 24 / 9: 0, 4, 2; two are left over
            close = 0
            of 1 9 = 1
            of 2 9 = 5
            of 3 9 = 2
            """);
        e.edge("25: 0 BY ASKED: all cut to none: a round by numbers", """
            terms 1 1 10 20
            holder 0 2 0
            holder 3 0 1000
            holder 5 0 1000
            holder 9 0 1000
            open
            excess 3 4
            excess 5 4
            excess 9 4
            # 8 / 12
            close = 0
            of 3 9 = 1
            of 5 9 = 1
            of 9 9 = 0
            """);
        e.edge("25: 0 BY ASKED: through all ASKED, not one more", TEN_LEFT, """
            open
            excess 1 1
            excess 2 1
            excess 3 18
            # 10 / 20, 10 / 20, 180 / 20: one is left over
            close = 0
            of 1 9 = 1
            of 2 9 = 0
            of 3 9 = 9
            """);
        e.edge("25: 0 BY ASKED: HOLDER 0 asks", NINE_LEFT, """
            open
            excess 0 12
            excess 1 8
            close = 0
            of 0 9 = 6
            of 1 9 = 4
            """);
        e.edge("25: 0 BY ASKED: unlike ones beyond an int", """
            terms 1 1 1 10
            holder 0 99999 0
            holder 1 0 1000000
            holder 2 0 1000000
            open
            excess 1 100000
            excess 2 50000
            close = 0
            of 1 9 = 66666
            of 2 9 = 33333
            """);
        e.edge("25: 0 BY ASKED: LEFT times ASKED beyond an int", """
            terms 1 1 1 10
            holder 0 99999 0
            holder 1 0 1000000
            holder 2 0 1000000
            open
            excess 1 100000
            excess 2 100000
            close = 0
            of 1 9 = 50000
            of 2 9 = 49999
            """);
    }

    private static void promise25ByHeld() {
        e.edge("25: 1 BY HELD: LEFT times HELD through HELD of all that ASKED", TWENTY_LEFT, """
            excess 1 70
            excess 2 70
            close = 0
            of 1 9 = 15
            of 2 9 = 5
            """);
        e.edge("25: 1 BY HELD: but no more than ASKED: just as much", TWENTY_LEFT, """
            excess 1 70
            excess 2 5
            close = 0
            of 1 9 = 15
            of 2 9 = 5
            """);
        e.edge("25: 1 BY HELD: but no more than ASKED: one less, left over for the other", TWENTY_LEFT, """
            excess 1 70
            excess 2 4
            close = 0
            of 1 9 = 16
            of 2 9 = 4
            """);
        e.edge("25: 1 BY HELD: all that ASKED (that is above 0): one that ASKED 0 does not count", TWENTY_LEFT, """
            excess 1 70
            excess 2 0
            excess 3 1
            # all by 1 alone: 20 * 30 / 30
            close = 0
            of 1 9 = 20
            of 3 9 = 0
            """);
        e.edge("25: 1 BY HELD: all that ASKED (that is above 0): one with EXCESS and no CASH does not count", TWENTY_LEFT, """
            excess 0 50
            excess 1 70
            excess 2 70
            close = 0
            of 0 8 = 0
            of 0 9 = 0
            of 1 9 = 15
            of 2 9 = 5
            """);
        e.edge("25: 1 BY HELD: all that ASKED (that is above 0): one that ASKED 1 counts", TWENTY_LEFT, """
            excess 1 1
            excess 2 70
            # 15, but 1; 5; 14 are left over
            close = 0
            of 1 9 = 1
            of 2 9 = 19
            """);
        e.edge("25: 1 BY HELD: (without HELD: 0)", TWENTY_LEFT, """
            excess 1 70
            excess 2 70
            excess 3 70
            close = 0
            of 1 9 = 15
            of 2 9 = 5
            of 3 9 = 0
            """);
        e.edge("25: 1 BY HELD: none that ASKED has HELD: round by round", TEN_LEFT, """
            rule 1
            open
            excess 1 3
            excess 2 9
            excess 3 9
            close = 0
            of 1 9 = 3
            of 2 9 = 4
            of 3 9 = 3
            """);
        e.edge("25: 1 BY HELD: cut, what is left over by numbers", """
            terms 1 1 10 20
            holder 0 10 0
            holder 1 3 1000
            holder 2 3 1000
            holder 3 3 1000
            rule 1
            open
            take 1 3
            take 2 3
            take 3 3
            excess 1 50
            excess 2 50
            excess 3 50
            # 30 / 9
            close = 0
            of 1 9 = 4
            of 2 9 = 3
            of 3 9 = 3
            """);
        e.edge("25: 1 BY HELD: through HELD of all that ASKED, not one more", """
            terms 1 1 10 20
            holder 0 10 0
            holder 1 1 1000
            holder 2 1 1000
            holder 3 18 1000
            rule 1
            open
            take 1 1
            take 2 1
            take 3 18
            excess 1 50
            excess 2 50
            excess 3 50
            # 10 / 20, 10 / 20, 180 / 20: one is left over
            close = 0
            of 1 9 = 1
            of 2 9 = 0
            of 3 9 = 9
            """);
        e.edge("25: 1 BY HELD: HOLDER 0 asks", """
            terms 1 1 10 20
            holder 0 30 1000
            holder 1 10 1000
            holder 9 20 0
            rule 1
            open
            take 0 30
            take 1 10
            excess 0 70
            excess 1 70
            close = 0
            of 0 9 = 15
            of 1 9 = 5
            """);
        e.edge("25: 1 BY HELD: what is left over, round by round, till one has what it ASKED", TWENTY_LEFT, """
            excess 1 1
            excess 2 8
            excess 3 70
            # 15, but 1; 5; 0; 14 are left over: three rounds, then 3 alone
            close = 0
            of 1 9 = 1
            of 2 9 = 8
            of 3 9 = 11
            """);
        e.edge("25: 1 BY HELD: LEFT times HELD beyond an int", """
            terms 1 1 1 10
            holder 0 99999 0
            holder 1 100000 1000000
            holder 2 50000 1000000
            rule 1
            open
            take 1 100000
            take 2 50000
            excess 1 100000
            excess 2 100000
            close = 0
            of 1 9 = 66666
            of 2 9 = 33333
            """);
        e.edge("25: 1 BY HELD: HELD when OPENED, not SHARES when CLOSED", TWENTY_LEFT, """
            sell 2 1 10 0
            take 1 40
            excess 1 50
            excess 2 50
            close = 0
            of 1 9 = 15
            of 2 9 = 5
            """);
    }

    private static void promise25Level() {
        e.edge("25: 2 LEVEL: round by round each that has less than it ASKED has one more, by numbers", TEN_LEFT, """
            rule 2
            open
            excess 1 2
            excess 2 9
            excess 3 9
            close = 0
            of 1 9 = 2
            of 2 9 = 4
            of 3 9 = 4
            """);
        e.edge("25: 2 LEVEL: till none of LEFT is left: within a round", TEN_LEFT, """
            rule 2
            open
            excess 1 9
            excess 2 9
            excess 3 9
            close = 0
            of 1 9 = 4
            of 2 9 = 3
            of 3 9 = 3
            """);
        e.edge("25: 2 LEVEL: fewer of LEFT than ask", """
            terms 1 1 10 20
            holder 0 2 0
            holder 1 0 100
            holder 8 0 100
            holder 9 0 100
            rule 2
            open
            excess 1 5
            excess 8 5
            excess 9 5
            close = 0
            of 1 9 = 1
            of 8 9 = 1
            of 9 9 = 0
            """);
        e.edge("25: 2 LEVEL: HOLDER 0 has what it ASKED first", NINE_LEFT, """
            rule 2
            open
            excess 0 2
            excess 1 9
            excess 2 9
            close = 0
            of 0 9 = 2
            of 1 9 = 4
            of 2 9 = 4
            """);
        e.edge("25: 2 LEVEL: ten ask for as much as they can, all but one of LEFT", """
            terms 11 2 1 10
            rule 2
            """, tenAsk(10000, 100000), """
            take 9 1
            # LEFT 549999 of 550000
            close = 0
            of 0 9 = 10000
            of 7 9 = 80000
            of 8 9 = 90000
            of 9 9 = 99999
            """);
        e.edge("25: 2 LEVEL: ten ask, each for one more than the one ahead", """
            terms 6 1 10 20
            rule 2
            """, tenAsk(1, 9), """
            # LEFT 54 of 55
            close = 0
            of 0 9 = 1
            of 8 9 = 9
            of 9 9 = 9
            """);
        e.edge("25: 2 LEVEL: all but one of what was ASKED", TEN_LEFT, """
            rule 2
            open
            excess 1 1
            excess 2 1
            excess 3 9
            close = 0
            of 1 9 = 1
            of 2 9 = 1
            of 3 9 = 8
            """);
    }

    /** OPENED: HOLDER 9 alone has SHARES; HOLDER h asks for (h and 1) times so many, and has CASH enough. */
    private static String tenAsk(int times, int shares) {
        StringBuilder text = new StringBuilder();
        for (int h = 0; h < 10; h++) {
            text.append("holder ").append(h).append(' ').append(h == 9 ? shares : 0).append(" 1000000\n");
        }
        text.append("open\n");
        for (int h = 0; h < 10; h++) {
            text.append("excess ").append(h).append(' ').append(times * (h + 1)).append('\n');
        }
        return text.toString();
    }

    private static void promise25Rump() {
        e.edge("25: each pays K for what it has; GIVEN", TEN_LEFT, """
            open
            excess 1 8
            excess 2 8
            close = 0
            of 1 9 = 5
            of 1 1 = 950
            of 1 0 = 5
            """);
        e.edge("25: RUMP: LEFT less all GIVEN: all of LEFT", TEN_LEFT, """
            open
            close = 10
            count 7 = 0
            """);
        e.edge("25: the greatest RUMP", ten(100000), """
            terms 20 1 1 1
            open
            close = 20000000
            count 5 = 20000000
            """);
    }

    private static String ten(int shares) {
        StringBuilder text = new StringBuilder();
        for (int h = 0; h < 10; h++) {
            text.append("holder ").append(h).append(' ').append(shares).append(" 0\n");
        }
        return text.toString();
    }

    private static void promise27Stages() {
        e.edge("27: -9: not CLOSED", Edge.SMALL, """
            done = -9
            open
            done = -9
            close
            done = 0
            done = -9
            anew
            done = -9
            """);
    }

    private static void promise27Strike() {
        e.edge("27: STRIKE (0 if RUMP is 0)", TEN_LEFT, """
            book "50x100"
            open
            excess 1 10
            close = 0
            done = 0
            count 9 = 0
            count 10 = 0
            count 11 = 0
            bid 0 2 = 0
            """);
        e.edge("27: without a BOOK none is SOLD", TEN_LEFT, """
            open
            close = 10
            done = 0
            count 9 = 0
            count 13 = 10
            """);
        e.edge("27: BIDS at that price or more are for RUMP or more together: just", TEN_LEFT, """
            book "30x4;40x6;20x9"
            open
            close = 10
            done = 10
            count 9 = 30
            """);
        e.edge("27: BIDS at that price or more are for RUMP or more together: one is missing", TEN_LEFT, """
            book "30x4;40x5;20x9"
            open
            close = 10
            done = 10
            count 9 = 20
            """);
        e.edge("27: the greatest price: one BID is for all", TEN_LEFT, """
            book "30x4;40x10;20x9"
            open
            close = 10
            done = 10
            count 9 = 40
            """);
        e.edge("27: the greatest price of a BID (K or more): K", TEN_LEFT, """
            book "10x10"
            open
            close = 10
            done = 10
            count 9 = 10
            count 11 = 0
            """);
        e.edge("27: the greatest price of a BID (K or more): a penny less than K", TEN_LEFT, """
            book "9x10;10x9"
            open
            close = 10
            done = 9
            count 9 = 10
            bid 0 2 = 0
            bid 1 2 = 9
            """);
        e.edge("27: if there is none, the least price of a BID of K or more (then all BIDS of K or more are SOLD)", TEN_LEFT, """
            book "30x4;9x100;11x2;40x3"
            open
            close = 10
            done = 9
            count 9 = 11
            bid 0 2 = 4
            bid 1 2 = 0
            bid 2 2 = 2
            bid 3 2 = 3
            count 13 = 1
            """);
        e.edge("27: without such: none is SOLD", TEN_LEFT, """
            book "9x100;1x100"
            open
            close = 10
            done = 0
            count 9 = 0
            bid 0 2 = 0
            bid 1 2 = 0
            """);
        e.edge("27: at the least price, K 1", """
            terms 1 1 1 20
            holder 0 10 0
            book "1x10"
            open
            close = 10
            done = 10
            count 9 = 1
            count 11 = 0
            """);
        e.edge("27: at the least price, K 1: others above it", """
            terms 1 1 1 20
            holder 0 10 0
            book "1x4;2x3;1x9"
            open
            close = 10
            done = 10
            count 9 = 1
            bid 0 2 = 4
            bid 1 2 = 3
            bid 2 2 = 3
            """);
        e.edge("27: at the greatest price, K 10000", """
            terms 1 1 10000 20
            holder 0 10 0
            book "9999x10;10000x10"
            open
            close = 10
            done = 10
            count 9 = 10000
            bid 0 2 = 0
            bid 1 2 = 10
            """);
        e.edge("27: a RUMP of one", """
            holder 0 4 0
            book "150x1;200x1"
            open
            close = 1
            done = 1
            count 9 = 200
            bid 0 2 = 0
            bid 1 2 = 1
            """);
        e.edge("27: as many BIDS of 100000 as a TEXT holds", ten(100000), "terms 20 1 1 1\n",
            "book \"" + "9x100000;".repeat(16) + "9x100000\"\n", """
            open
            close = 20000000
            done = 1700000
            count 9 = 9
            bid 16 2 = 100000
            """);
    }

    private static void promise27Have() {
        e.edge("27: BIDS above STRIKE have all, those at STRIKE the rest, as they stand", TEN_LEFT, """
            book "30x3;40x4;30x2;30x5;50x1"
            open
            close = 10
            done = 10
            count 9 = 30
            bid 0 2 = 3
            bid 1 2 = 4
            bid 2 2 = 2
            bid 3 2 = 0
            bid 4 2 = 1
            """);
        e.edge("27: those at STRIKE the rest: the first of them in part", TEN_LEFT, """
            book "40x4;30x9;30x9"
            open
            close = 10
            done = 10
            bid 0 2 = 4
            bid 1 2 = 6
            bid 2 2 = 0
            """);
        e.edge("27: BIDS a penny above STRIKE, a penny below", TEN_LEFT, """
            book "29x5;30x9;31x5"
            open
            close = 10
            done = 10
            bid 0 2 = 0
            bid 1 2 = 5
            bid 2 2 = 5
            """);
        String twenty = "20x1;".repeat(19) + "20x1";
        e.edge("27: twenty BIDS", """
            terms 1 1 10 20
            holder 0 19 0
            """, "book \"" + twenty + "\"\n", """
            open
            close = 19
            done = 19
            bid 0 2 = 1
            bid 18 2 = 1
            bid 19 2 = 0
            """);
        e.edge("27: how many it has (0 ahead of DONE)", TEN_LEFT, """
            book "30x10"
            bid 0 2 = 0
            open
            bid 0 2 = 0
            close
            bid 0 2 = 0
            done
            bid 0 2 = 10
            """);
    }

    private static void promise27Premium() {
        e.edge("27: PREMIUM: (STRIKE less K) times SOLD: by a penny", TEN_LEFT, """
            book "11x10"
            open
            close = 10
            done = 10
            count 11 = 10
            of 0 10 = 10
            of 0 1 = 10
            """);
        e.edge("27: PREMIUM times its LAPSED through (all LAPSED and FRACTIONS), cut", """
            holder 0 4 0
            holder 1 6 0
            holder 2 2 0
            book "101x3"
            open
            close = 3
            done = 3
            # 1, 1, 0 LAPSED and one FRACTION: 3 / 3 each
            of 0 10 = 1
            of 1 10 = 1
            of 2 10 = 0
            # 300 and what is left of 3
            count 15 = 301
            """);
        e.edge("27: cut: none has any", """
            holder 0 4 0
            holder 1 4 0
            book "101x1"
            open
            close = 2
            done = 1
            count 11 = 1
            of 0 10 = 0
            of 1 10 = 0
            count 15 = 101
            """);
        e.edge("27: who has taken up all has none of it", Edge.OPENED, """
            take 0 100
            close = 73
            book "110x100"
            done = 73
            of 0 10 = 0
            of 1 10 = 500
            of 2 10 = 220
            count 15 = 17310
            """);
        e.edge("27: LAPSED that others were GIVEN counts, too", TEN_LEFT, """
            open
            excess 1 5
            close = 5
            book "20x5"
            done = 5
            count 11 = 50
            of 0 10 = 50
            """);
        e.edge("27: FRACTIONS alone: all of PREMIUM is left", """
            holder 0 2 0
            holder 1 2 0
            book "150x1"
            open
            close = 1
            done = 1
            count 11 = 50
            of 0 10 = 0
            count 15 = 150
            """);
        e.edge("27: CASH above 1000000000, PREMIUM beyond an int", """
            terms 20 1 1 10000
            holder 0 100000 1000000000
            book "10000x100000;10000x100000;10000x100000"
            open
            close = 2000000
            done = 300000
            count 11 = 2999700000
            of 0 10 = 2999700000
            of 0 1 = 3999700000
            """);
    }

    private static void promise27Layers() {
        e.edge("27: what is not SOLD of RUMP goes to LAYER 0 up to its size: just", TEN_LEFT, """
            layer 0 10 0
            layer 1 10 0
            open
            close = 10
            done = 0
            taken 0 2 = 10
            taken 1 2 = 0
            count 12 = 10
            count 13 = 0
            """);
        e.edge("27: up to its size, then to 1: one more", TEN_LEFT, """
            layer 0 9 0
            layer 1 10 0
            open
            close = 10
            done = 0
            taken 0 2 = 9
            taken 1 2 = 1
            """);
        e.edge("27: and so on: to LAYER 3", TEN_LEFT, """
            layer 0 3 0
            layer 1 3 0
            layer 2 3 0
            layer 3 1 0
            open
            close = 10
            done = 0
            taken 3 2 = 1
            count 12 = 10
            count 13 = 0
            """);
        e.edge("27: what is beyond is NOT TAKEN: one", TEN_LEFT, """
            layer 0 3 0
            layer 1 3 0
            layer 2 3 0
            layer 3 0 0
            open
            close = 10
            done = 0
            taken 3 2 = 0
            count 12 = 9
            count 13 = 1
            """);
        e.edge("27: without LAYERS all of it is NOT TAKEN", TEN_LEFT, """
            open
            close = 10
            done = 0
            count 12 = 0
            count 13 = 10
            """);
        e.edge("27: a LAYER of size 0 is passed by", TEN_LEFT, """
            layer 1 100000 0
            open
            close = 10
            done = 0
            taken 0 2 = 0
            taken 1 2 = 10
            """);
        e.edge("27: all is SOLD: nothing goes to LAYERS", TEN_LEFT, """
            layer 0 5 0
            book "10x10"
            open
            close = 10
            done = 10
            taken 0 2 = 0
            count 12 = 0
            count 13 = 0
            """);
        e.edge("27: all but one is SOLD", TEN_LEFT, """
            layer 0 5 0
            book "10x9"
            open
            close = 10
            done = 9
            taken 0 2 = 1
            """);
        e.edge("27: full LAYERS", ten(100000), """
            terms 20 1 1 1
            layer 0 100000 0
            layer 1 100000 0
            layer 2 100000 0
            layer 3 100000 0
            open
            close = 20000000
            done = 0
            count 12 = 400000
            count 13 = 19600000
            """);
    }

    private static void promise27Fees() {
        e.edge("27: FEES: each size times K times fee through 10000, cut: each by itself", """
            terms 1 1 1 20
            layer 0 99 101
            layer 1 99 101
            # 9999 / 10000 each
            taken 0 3 = 0
            count 14 = 0
            layer 0 100 100
            taken 0 3 = 1
            layer 1 100 199
            taken 1 3 = 1
            count 14 = 2
            """);
        e.edge("27: FEES: the greatest", """
            terms 1 1 10000 20
            layer 0 100000 1000
            layer 1 100000 1000
            layer 2 100000 1000
            layer 3 100000 1000
            taken 3 3 = 100000000
            count 14 = 400000000
            """);
        e.edge("27: FEES: of the size, whatever it takes", TEN_LEFT, """
            layer 0 1000 1000
            open
            take 0 0
            excess 1 10
            close = 0
            done = 0
            taken 0 2 = 0
            taken 0 3 = 1000
            # 10 at 10
            count 15 = -900
            """);
        e.edge("27: FEES always", TEN_LEFT, """
            layer 0 100 1000
            count 14 = 100
            open
            count 14 = 100
            close
            count 14 = 100
            done
            count 14 = 100
            anew
            count 14 = 0
            """);
    }

    private static void promise27Raised() {
        e.edge("27: RAISED: K for all that was taken up", Edge.OPENED, """
            take 0 100
            close
            done
            count 15 = 10000
            """);
        e.edge("27: RAISED: K for GIVEN", TEN_LEFT, """
            open
            excess 1 4
            close
            done
            count 15 = 40
            """);
        e.edge("27: RAISED: K for SOLD", TEN_LEFT, """
            book "20x4"
            open
            close
            done
            count 15 = 40
            """);
        e.edge("27: RAISED: K for what is taken by LAYERS, less FEES", TEN_LEFT, """
            layer 2 4 1000
            open
            close
            done
            count 15 = 36
            """);
        e.edge("27: RAISED: none for what is NOT TAKEN", TEN_LEFT, """
            open
            close
            done
            count 15 = 0
            """);
        e.edge("27: RAISED: beyond an int", """
            terms 20 1 10000 10000
            holder 0 100000 0
            open
            sell 0 -1 1000000 0
            sell 0 -1 1000000 0
            close = 0
            done = 0
            count 15 = 20000000000
            """);
    }
}
