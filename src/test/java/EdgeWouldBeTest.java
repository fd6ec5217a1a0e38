/** Boundary cases of promises 40 to 51, sentence by sentence. */
public final class EdgeWouldBeTest {
    private static final Edge e = new Edge();

    /** 1 for 1 at 10: LEFT is the 10 RIGHTS of HOLDER 0; 1, 2, 3 may ask for 100 each. */
    private static final String TEN_LEFT = """
        terms 1 1 10 20
        holder 0 10 0
        holder 1 0 1000
        holder 2 0 1000
        holder 3 0 1000
        open
        """;

    /** HOLDER 0 has 2000000 RIGHTS; K 10000. */
    private static final String LARGE = """
        terms 20 1 10000 10000
        holder 0 100000 0
        open
        """;

    public static void main(String[] args) {
        promise40();
        promise41();
        promise42();
        promise43();
        promise44();
        promise45();
        promise46();
        promise46Like();
        promise47();
        promise48();
        promise49();
        promise50();
        promise51();
        e.end();
    }

    private static void promise40() {
        e.edge("40: HOLDERS 0 to 9", Edge.OPENED, """
            sell 0 9 1 0
            tailFor -1 5 0 = -1
            tailFor 10 5 0 = -1
            tailFor MIN 5 0 = -1
            tailFor MAX 5 0 = -1
            tailFor 0 5 0 = 95
            tailFor 9 5 0 = 1
            """);
        e.edge("40: (q 1 to 10000)", Edge.OPENED, """
            tailFor 0 0 0 = -1
            tailFor 0 -1 0 = -1
            tailFor 0 10001 0 = -1
            tailFor 0 MIN 0 = -1
            tailFor 0 MAX 0 = -1
            tailFor 0 1 0 = 100
            tailFor 0 1 1 = 0
            tailFor 0 1 2 = 100
            tailFor 0 10000 0 = 1
            tailFor 0 10000 1 = 99
            tailFor 0 10000 2 = 100
            """);
        e.edge("40: what 0 to 2", Edge.OPENED, """
            tailFor 0 100 -1 = -1
            tailFor 0 100 3 = -1
            tailFor 0 100 MIN = -1
            tailFor 0 100 MAX = -1
            tailFor 0 100 0 = 50
            tailFor 0 100 1 = 50
            tailFor 0 100 2 = 0
            """);
        e.edge("40: what of their money is left: just, and a penny more each", Edge.OPENED, """
            tailFor 0 101 0 = 50
            tailFor 0 101 2 = 50
            tailFor 0 99 0 = 51
            tailFor 0 99 2 = 149
            """);
        e.edge("40: -2: it has no RIGHTS", Edge.OPENED, """
            tailFor 3 5 0 = -2
            tailFor 3 5 2 = -2
            sell 0 3 1 0
            tailFor 3 5 0 = 1
            tailFor 3 5 1 = 0
            """);
        e.edge("40: whatever CASH there is", """
            holder 0 4 1000000000
            open
            tailFor 0 10000 0 = 1
            tailFor 0 10000 2 = 10000
            tail 0 10000 = -4
            """);
        e.edge("40: beyond an int", LARGE, """
            tailFor 0 1 0 = 1999801
            tailFor 0 1 1 = 199
            tailFor 0 10000 0 = 1000000
            tailFor 0 10000 2 = 0
            tailFor 0 9999 0 = 1000051
            tailFor 0 9999 2 = 19949
            """);
        e.edge("40: -9: not NIL PAID, right behind NONE, ahead of -2", Edge.SMALL, """
            tailFor 0 5 0 = -9
            tailFor 0 0 0 = -1
            tailFor 0 5 3 = -1
            open
            close
            tailFor 0 5 0 = -9
            tailFor 3 5 0 = -9
            tailFor 10 5 0 = -1
            done
            tailFor 0 5 0 = -9
            tailFor 0 10001 0 = -1
            """);
    }

    private static void promise41() {
        e.edge("41: HOLDERS 0 to 9", Edge.OPENED, """
            sell 0 9 2 0
            tailPrice -1 1 = -1
            tailPrice 10 1 = -1
            tailPrice MIN 1 = -1
            tailPrice MAX 1 = -1
            tailPrice 0 1 = 2
            tailPrice 9 1 = 100
            """);
        e.edge("41: at least k (1 to 1000000) RIGHTS are left", LARGE, """
            tailPrice 0 0 = -1
            tailPrice 0 -1 = -1
            tailPrice 0 1000001 = -1
            tailPrice 0 MIN = -1
            tailPrice 0 MAX = -1
            tailPrice 0 1 = 1
            tailPrice 0 199 = 1
            tailPrice 0 200 = 2
            tailPrice 0 1000000 = 10000
            """);
        e.edge("41: the least q: just", """
            terms 1 1 100 200
            holder 0 3 0
            open
            # 1 at 200 pays for 2, 2 at 50 for 1
            tailPrice 0 2 = 200
            tailPrice 0 1 = 50
            tailPrice 0 3 = -2
            """);
        e.edge("41: -2: there is none: of all its RIGHTS none is sold then", Edge.OPENED, """
            tailPrice 2 21 = 2100
            tailPrice 2 22 = -2
            tailPrice 2 23 = -2
            tailPrice 2 1000000 = -2
            """);
        e.edge("41: -2: there is none: it would be above 10000", """
            terms 1 1 100 200
            holder 0 101 0
            holder 1 102 0
            open
            # 100 for one: 10000; 101 for one: 10100
            tailPrice 0 100 = 10000
            tailPrice 1 101 = -2
            tailPrice 1 100 = 5000
            """);
        e.edge("41: -2: there is none: it has no RIGHTS", Edge.OPENED, """
            tailPrice 3 1 = -2
            sell 0 3 1 0
            tailPrice 3 1 = -2
            sell 0 3 1 0
            tailPrice 3 1 = 100
            """);
        e.edge("41: -9: not NIL PAID, right behind NONE, ahead of -2", Edge.SMALL, """
            tailPrice 0 1 = -9
            tailPrice 0 0 = -1
            open
            close
            tailPrice 0 1 = -9
            tailPrice 3 1 = -9
            tailPrice 10 1 = -1
            done
            tailPrice 0 1 = -9
            tailPrice 0 1000001 = -1
            """);
    }

    private static void promise42() {
        e.edge("42: by RULE r (0 to 2)", TEN_LEFT, """
            excess 1 9
            excess 2 6
            ifClosed -1 0 = -1
            ifClosed 3 0 = -1
            ifClosed MIN 0 = -1
            ifClosed MAX 0 = -1
            ifClosed 0 11 = 6
            ifClosed 1 11 = 5
            ifClosed 2 11 = 5
            """);
        e.edge("42: what 0 to 2, 10 + h", TEN_LEFT, """
            excess 1 4
            ifClosed 0 -1 = -1
            ifClosed 0 3 = -1
            ifClosed 0 9 = -1
            ifClosed 0 20 = -1
            ifClosed 0 MIN = -1
            ifClosed 0 MAX = -1
            ifClosed 0 0 = 10
            ifClosed 0 1 = 4
            ifClosed 0 2 = 6
            ifClosed 0 10 = 0
            ifClosed 0 11 = 4
            ifClosed 0 19 = 0
            """);
        e.edge("42: GIVEN of HOLDER 9", Edge.SMALL, """
            holder 9 0 500
            open
            excess 9 100
            ifClosed 0 19 = 5
            """);
        e.edge("42: LEFT, GIVEN, RUMP: none", """
            holder 0 400 10000
            open
            take 0 100
            ifClosed 0 0 = 0
            ifClosed 0 1 = 0
            ifClosed 0 2 = 0
            ifClosed 2 10 = 0
            """);
        e.edge("42: the RULE stays as it was", TEN_LEFT, """
            excess 1 9
            excess 2 6
            rule 2
            ifClosed 0 11 = 6
            count 17 = 2
            close
            of 1 9 = 5
            """);
        e.edge("42: -9: not NIL PAID, right behind NONE", Edge.SMALL, """
            ifClosed 0 0 = -9
            ifClosed 3 0 = -1
            ifClosed 0 3 = -1
            open
            close
            ifClosed 0 10 = -9
            ifClosed -1 0 = -1
            done
            ifClosed 0 0 = -9
            ifClosed 0 20 = -1
            """);
    }

    private static void promise43() {
        e.edge("43: for a RUMP of so many (1 to 1000000)", """
            book "150x2;140x3"
            strikeFor 0 = -1
            strikeFor -1 = -1
            strikeFor 1000001 = -1
            strikeFor MIN = -1
            strikeFor MAX = -1
            strikeFor 1 = 150
            strikeFor 1000000 = 140
            """);
        e.edge("43: STRIKE: just as many, one more", """
            book "150x2;140x3"
            strikeFor 2 = 150
            strikeFor 3 = 140
            strikeFor 5 = 140
            strikeFor 6 = 140
            """);
        e.edge("43: at K: a BID at K, a penny below", """
            book "99x100;100x1"
            strikeFor 1 = 100
            strikeFor 2 = 100
            book "99x100"
            strikeFor 1 = 0
            """);
        e.edge("43: 0: none: without a BOOK", """
            strikeFor 1 = 0
            strikeFor 1000000 = 0
            """);
        e.edge("43: a million in BIDS", "book \"" + "200x100000;".repeat(10) + "199x1\"\n", """
            strikeFor 1000000 = 200
            soldFor 1000000 0 = 1000000
            """);
        e.edge("43: in every STAGE, K as it is", Edge.SMALL, """
            book "150x5"
            strikeFor 1 = 150
            open
            strikeFor 1 = 150
            close
            strikeFor 1 = 150
            done
            strikeFor 1 = 150
            strikeFor 0 = -1
            """);
    }

    private static void promise44() {
        e.edge("44: for a RUMP of so many, likewise", """
            book "150x2;140x3"
            soldFor 0 0 = -1
            soldFor -1 0 = -1
            soldFor 1000001 0 = -1
            soldFor MIN 0 = -1
            soldFor MAX 0 = -1
            soldFor 1 0 = 1
            soldFor 1000000 0 = 5
            """);
        e.edge("44: sort 0, 1", """
            book "150x2;140x3"
            soldFor 1 -1 = -1
            soldFor 1 2 = -1
            soldFor 1 MIN = -1
            soldFor 1 MAX = -1
            soldFor 1 0 = 1
            soldFor 1 1 = 50
            """);
        e.edge("44: how many would be SOLD: just as many, one more", """
            book "150x2;140x3"
            soldFor 2 0 = 2
            soldFor 2 1 = 100
            soldFor 3 0 = 3
            soldFor 3 1 = 120
            soldFor 5 0 = 5
            soldFor 6 0 = 5
            soldFor 6 1 = 200
            """);
        e.edge("44: none is SOLD, no PREMIUM", """
            soldFor 1 0 = 0
            soldFor 1 1 = 0
            book "99x5"
            soldFor 5 0 = 0
            soldFor 5 1 = 0
            book "100x5"
            soldFor 5 0 = 5
            soldFor 5 1 = 0
            """);
        e.edge("44: PREMIUM beyond an int", """
            terms 1 1 1 1
            book "10000x100000;10000x100000;10000x100000"
            soldFor 1000000 0 = 300000
            soldFor 1000000 1 = 2999700000
            """);
    }

    private static void promise45() {
        e.edge("45: other TERMS n (1 to 20)", Edge.SMALL, """
            ifTerms 0 4 100 2 = -1
            ifTerms -1 4 100 2 = -1
            ifTerms 21 4 100 2 = -1
            ifTerms MIN 4 100 2 = -1
            ifTerms MAX 4 100 2 = -1
            ifTerms 1 4 100 2 = 173
            ifTerms 20 4 100 2 = 3460
            """);
        e.edge("45: for m (1 to 20)", Edge.SMALL, """
            ifTerms 1 0 100 2 = -1
            ifTerms 1 -1 100 2 = -1
            ifTerms 1 21 100 2 = -1
            ifTerms 1 MIN 100 2 = -1
            ifTerms 1 MAX 100 2 = -1
            ifTerms 1 1 100 2 = 692
            ifTerms 1 20 100 2 = 34
            """);
        e.edge("45: at K (1 to 10000)", Edge.SMALL, """
            ifTerms 1 4 0 3 = -1
            ifTerms 1 4 -1 3 = -1
            ifTerms 1 4 10001 3 = -1
            ifTerms 1 4 MIN 3 = -1
            ifTerms 1 4 MAX 3 = -1
            ifTerms 1 4 1 3 = 173
            ifTerms 1 4 10000 3 = 1730000
            """);
        e.edge("45: what 0 to 3", Edge.SMALL, """
            ifTerms 1 4 100 -1 = -1
            ifTerms 1 4 100 4 = -1
            ifTerms 1 4 100 MIN = -1
            ifTerms 1 4 100 MAX = -1
            ifTerms 1 4 100 0 = 180
            ifTerms 1 4 100 1 = 1
            ifTerms 1 4 100 3 = 17300
            """);
        e.edge("45: NEW: none", """
            holder 0 3 0
            ifTerms 1 4 100 2 = 0
            ifTerms 1 4 100 3 = 0
            ifTerms 1 3 100 2 = 1
            """);
        e.edge("45: T in lowest terms, PRICE as it is", """
            ifTerms 2 4 150 0 = 550
            ifTerms 2 4 150 1 = 3
            terms 1 1 1 10000
            ifTerms 1 20 1 0 = 66667
            ifTerms 1 20 1 1 = 7
            """);
        e.edge("45: NEW times K beyond an int", ten(100000), """
            ifTerms 20 1 10000 2 = 20000000
            ifTerms 20 1 10000 3 = 200000000000
            """);
        e.edge("45: in every STAGE, ALL as they are", Edge.OPENED, """
            ifTerms 1 1 1 2 = 692
            take 0 100
            close
            ifTerms 1 1 1 2 = 792
            done
            ifTerms 1 1 1 2 = 792
            """);
    }

    private static String ten(int shares) {
        StringBuilder text = new StringBuilder();
        for (int h = 0; h < 10; h++) {
            text.append("holder ").append(h).append(' ').append(shares).append(" 0\n");
        }
        return text.toString();
    }

    private static void promise46() {
        e.edge("46: at K (1 to 10000)", Edge.SMALL, """
            termsFor 0 100 0 = -1
            termsFor -1 100 0 = -1
            termsFor 10001 100 0 = -1
            termsFor MIN 100 0 = -1
            termsFor MAX 100 0 = -1
            termsFor 1 34 2 = 34
            termsFor 10000 1 2 = 34
            """);
        e.edge("46: so much (1 to 2000000000)", ten(100000), """
            termsFor 10000 0 0 = -1
            termsFor 10000 -1 0 = -1
            termsFor 10000 2000000001 0 = -1
            termsFor 10000 MIN 0 = -1
            termsFor 10000 MAX 0 = -1
            termsFor 10000 1 2 = 50000
            termsFor 10000 2000000000 0 = 1
            termsFor 10000 2000000000 1 = 5
            termsFor 10000 2000000000 2 = 200000
            """);
        e.edge("46: what 0 to 2", Edge.SMALL, """
            termsFor 100 100 -1 = -1
            termsFor 100 100 3 = -1
            termsFor 100 100 MIN = -1
            termsFor 100 100 MAX = -1
            termsFor 100 100 0 = 1
            termsFor 100 100 1 = 20
            termsFor 100 100 2 = 34
            """);
        e.edge("46: or more: just", """
            holder 0 20 0
            # one NEW by 1 for 20, 20 * 20 at most
            termsFor 7 7 2 = 1
            termsFor 7 8 2 = 2
            termsFor 7 2800 2 = 400
            termsFor 7 2800 0 = 20
            termsFor 7 2800 1 = 1
            termsFor 7 2801 2 = -2
            """);
        e.edge("46: -2: there are none: without SHARES", """
            termsFor 10000 1 0 = -2
            holder 9 1 0
            termsFor 10000 1 0 = 1
            """);
        e.edge("46: NONE comes ahead of -2", """
            termsFor 0 1 0 = -1
            termsFor 1 1 3 = -1
            termsFor 1 1 2 = -2
            """);
        e.edge("46: in every STAGE, ALL as they are", """
            holder 0 20 10000
            open
            take 0 5
            close
            termsFor 1 500 2 = 500
            termsFor 1 501 2 = -2
            done
            termsFor 1 500 0 = 20
            """);
    }

    private static void promise46Like() {
        e.edge("46: of like ones the least n through m", """
            holder 0 1 0
            # one NEW: 1 through 1 to 20 through 11; the least is 1
            termsFor 1 1 0 = 1
            termsFor 1 1 1 = 1
            termsFor 1 1 2 = 1
            """);
        e.edge("46: of like ones of these the least m", """
            holder 0 6 0
            # three NEW: 1 for 2, not 10 for 20
            termsFor 1 3 0 = 1
            termsFor 1 3 1 = 2
            # two NEW: 1 for 3
            termsFor 1 2 0 = 1
            termsFor 1 2 1 = 3
            # four: 2 for 3, not 4 for 6
            termsFor 1 4 0 = 2
            termsFor 1 4 1 = 3
            """);
        e.edge("46: of like ones the least n through m, though its m is greater", """
            holder 0 10 0
            # seven NEW: 7 / 10 is less than 5 / 7, 3 / 4
            termsFor 1 7 0 = 7
            termsFor 1 7 1 = 10
            """);
        e.edge("46: the fewest NEW", """
            holder 0 7 0
            # 13 is made by 13 / 7; 12 by 7 / 4
            termsFor 1 12 2 = 12
            termsFor 1 13 2 = 13
            termsFor 1 13 0 = 13
            termsFor 1 13 1 = 7
            # 20 / 1 makes 140, 19 / 1 makes 133
            termsFor 1 139 2 = 140
            termsFor 1 139 0 = 20
            """);
    }

    private static void promise47() {
        e.edge("47: in hundredths of pence, 1 to 1000000", """
            priceFor 0 = -1
            priceFor -1 = -1
            priceFor 1000001 = -1
            priceFor MIN = -1
            priceFor MAX = -1
            priceFor 1 = 1
            priceFor 1000000 = -2
            terms 20 1 1 10000
            priceFor 1000000 = 10000
            """);
        e.edge("47: the least K (1 to 10000): 1", """
            terms 1 1 50 201
            # by P alone T is 100.5, K 1: T is 101
            priceFor 10049 = 1
            priceFor 10050 = 1
            priceFor 10051 = 1
            priceFor 10100 = 1
            priceFor 10101 = 2
            priceFor 10150 = 2
            priceFor 10151 = 3
            """);
        e.edge("47: the least K (1 to 10000): 10000, and -2: there is none", """
            terms 1 1 50 200
            # K 10000: T is 5100
            priceFor 509950 = 9999
            priceFor 509951 = 10000
            priceFor 510000 = 10000
            priceFor 510001 = -2
            """);
        e.edge("47: so much or more: of thirds", """
            terms 1 2 50 200
            # (400 and K) through 3
            priceFor 13366 = 1
            priceFor 13367 = 2
            priceFor 13400 = 2
            priceFor 13401 = 3
            """);
        e.edge("47: in every STAGE, n, m, P as they are, whatever K is", Edge.SMALL, """
            priceFor 18000 = 100
            priceFor 18001 = 101
            open
            priceFor 18000 = 100
            close
            priceFor 18000 = 100
            done
            priceFor 18000 = 100
            priceFor 0 = -1
            """);
    }

    private static void promise48() {
        e.edge("48: HOLDERS 0 to 9", Edge.OPENED, """
            lacks -1 = -1
            lacks 10 = -1
            lacks MIN = -1
            lacks MAX = -1
            lacks 0 = 0
            lacks 9 = 0
            """);
        e.edge("48: (0: none): just, and a penny", Edge.OPENED, """
            # 100 RIGHTS at 100, CASH 10000
            lacks 0 = 0
            sell 2 0 1 1
            lacks 0 = 101
            sell 0 2 1 0
            lacks 0 = 1
            sell 0 2 1 0
            lacks 0 = 0
            """);
        e.edge("48: all its RIGHTS, whatever TAKE", Edge.OPENED, """
            lacks 1 = 5000
            take 1 10
            lacks 1 = 5000
            """);
        e.edge("48: beyond an int", LARGE, """
            lacks 0 = 20000000000
            """);
        e.edge("48: -9: not NIL PAID, right behind NONE", Edge.SMALL, """
            lacks 0 = -9
            lacks 10 = -1
            open
            close
            lacks 0 = -9
            lacks -1 = -1
            done
            lacks 0 = -9
            lacks 10 = -1
            """);
    }

    private static void promise49() {
        e.edge("49: the k-th (0 to 9)", Edge.SMALL, """
            rank -1 = -1
            rank 10 = -1
            rank MIN = -1
            rank MAX = -1
            rank 0 = 0
            rank 1 = 1
            rank 2 = 2
            rank 3 = 3
            rank 9 = 9
            """);
        e.edge("49: of like ones by numbers: all are like", """
            rank 0 = 0
            rank 5 = 5
            rank 9 = 9
            """);
        e.edge("49: the most first; of like ones by numbers", """
            holder 9 5 0
            holder 4 5 0
            holder 7 6 0
            rank 0 = 7
            rank 1 = 4
            rank 2 = 9
            rank 3 = 0
            rank 6 = 3
            rank 7 = 5
            rank 9 = 8
            """);
        e.edge("49: SHARES as they are", Edge.OPENED, """
            sell 2 3 1 0
            excess 2 1000
            close
            rank 0 = 0
            rank 1 = 2
            rank 2 = 1
            done
            give 0 9 400 0
            rank 0 = 9
            rank 9 = 8
            """);
    }

    private static void promise50() {
        e.edge("50: NONE: 8 are", """
            keep = 1
            keep = 2
            keep = 3
            keep = 4
            keep = 5
            keep = 6
            keep = 7
            keep = 8
            keep = -1
            count 19 = 8
            undo = 7
            keep = 8
            keep = -1
            """);
        e.edge("50: all but the tape is kept: the tape stays as it is", """
            tape "5x6"
            keep = 1
            count 18 = 20
            book 3 = 1
            undo = 0
            count 18 = 0
            count 16 = 0
            tape "7x8"
            undo = -1
            count 18 = 20
            """);
        e.edge("50: a state that is kept is not touched by what comes behind", Edge.SMALL, """
            keep = 1
            holder 0 1 1
            terms 2 2 2 2
            rule 2
            layer 0 1 1
            book "1x1"
            undo = 0
            of 0 0 = 400
            of 0 1 = 10000
            price 0 0 = 180
            count 17 = 0
            taken 0 0 = 0
            count 16 = 0
            """);
        e.edge("50: in every STAGE", Edge.SMALL, """
            keep = 1
            open
            keep = 2
            close
            keep = 3
            done
            keep = 4
            anew
            count 19 = 0
            keep = 1
            """);
    }

    private static void promise51() {
        e.edge("51: NONE: there is none", """
            undo = -1
            keep = 1
            undo = 0
            undo = -1
            """);
        e.edge("51: how many are left: from 8 to none", """
            holder 0 1 0
            keep
            holder 0 2 0
            keep
            holder 0 3 0
            keep
            holder 0 4 0
            keep
            holder 0 5 0
            keep
            holder 0 6 0
            keep
            holder 0 7 0
            keep
            holder 0 8 0
            keep
            holder 0 9 0
            undo = 7
            of 0 0 = 8
            undo = 6
            of 0 0 = 7
            undo = 5
            of 0 0 = 6
            undo = 4
            of 0 0 = 5
            undo = 3
            of 0 0 = 4
            undo = 2
            of 0 0 = 3
            undo = 1
            of 0 0 = 2
            undo = 0
            of 0 0 = 1
            undo = -1
            of 0 0 = 1
            """);
        e.edge("51: that state is gone: what comes behind does not bring it again", Edge.SMALL, """
            keep
            holder 0 1 0
            undo = 0
            holder 0 2 0
            undo = -1
            of 0 0 = 2
            keep = 1
            holder 0 3 0
            undo = 0
            of 0 0 = 2
            """);
        e.edge("51: back over a STAGE: DONE, CLOSED, NIL PAID, BEFORE", Edge.SMALL, """
            keep
            open
            stand 0 true 5 50
            take 0 7
            keep
            close
            keep
            done
            undo = 2
            count 0 = 2
            done = 0
            undo = 1
            count 0 = 1
            traded 6 = 1
            of 0 3 = 7
            undo = 0
            count 0 = 0
            traded 6 = 0
            of 0 2 = 0
            open = 173
            """);
        e.edge("51: NONE: there is none: anew leaves none", Edge.CLOSED, """
            keep = 1
            done
            anew
            undo = -1
            keep = 1
            open
            undo = 0
            count 0 = 0
            undo = -1
            """);
        e.edge("51: all is as it was kept: what was CLOSED, from DONE", Edge.OPENED, """
            take 0 7
            excess 2 8
            sell 0 -1 9 1
            close
            layer 0 5 100
            book "110x20;120x30"
            keep
            done
            undo = 0
            count 0 = 2
            of 0 0 = 407
            of 0 1 = 9309
            of 0 6 = 7
            of 0 7 = 84
            of 0 10 = 0
            of 2 8 = 8
            of 2 9 = 8
            count 4 = 9
            count 5 = 157
            count 8 = 149
            count 9 = 0
            count 10 = 0
            count 11 = 0
            count 12 = 0
            count 15 = 0
            taken 0 2 = 0
            bid 0 2 = 0
            bid 1 2 = 0
            done = 50
            count 9 = 110
            """);
        e.edge("51: all is as it was kept: what was DONE", Edge.CLOSED, """
            layer 0 5 100
            book "110x20;120x30"
            done = 50
            keep
            give 0 1 100 0
            undo = 0
            count 0 = 3
            of 0 0 = 400
            of 0 7 = 100
            of 0 10 = 289
            count 5 = 173
            count 8 = 173
            count 9 = 110
            count 10 = 50
            count 11 = 500
            count 12 = 5
            count 13 = 118
            taken 0 2 = 5
            bid 0 2 = 20
            bid 1 2 = 30
            """);
        e.edge("51: all is as it was kept: what was taken up and GIVEN, when DONE", Edge.OPENED, """
            take 0 7
            excess 2 8
            close
            done
            keep
            give 0 1 100 0
            undo = 0
            of 0 6 = 7
            of 0 7 = 93
            of 2 8 = 8
            of 2 9 = 8
            count 6 = 8
            count 7 = 8
            """);
        e.edge("51: planFor leaves what is kept", Edge.OPENED, """
            keep
            take 0 9
            planFor 0 "take 5;sell 5 at 5" 0 = 2
            undo = 0
            of 0 3 = 0
            of 0 2 = 100
            """);
    }
}
