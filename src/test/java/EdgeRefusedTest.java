/**
 * "A call that is refused (NONE, -2 to -9, false) changes nothing but the tape, where it is told": every call that can
 * be refused, by each of its reasons, in every STAGE, of a company of which all is in use. (Edge looks at all of it, at
 * the tape and at each state that is kept, ahead of the call and behind it.)
 */
public final class EdgeRefusedTest {
    private static final Edge e = new Edge();

    private static final String BEFORE = """
        holder 0 400 10000
        holder 1 202 0
        holder 2 90 100000
        holder 3 100000 1000000000
        holder 4 8 999999990
        terms 2 7 60 150
        rule 1
        layer 0 5 60
        layer 3 700 80
        book "70x50;65x9000;50x9;70x8"
        keep
        holder 5 9 9
        rule 2
        keep
        """;
    /** 28773 NEW; RIGHTS 114, 57, 25, 28571, 2, 2. */
    private static final String NIL_PAID = BEFORE + """
        open
        take 0 50
        take 3 20000
        excess 2 30
        excess 3 40
        sell 0 -1 5 20
        stand 0 true 5 50
        stand 2 false 3 55
        stand 2 false 4 20
        stand 1 true 6 70
        keep
        excess 2 31
        """;
    private static final String CLOSED = NIL_PAID + """
        close
        keep
        layer 1 20 30
        """;
    private static final String DONE = CLOSED + """
        done
        keep
        give 0 1 5 0
        """;
    private static final String TAPE = "tape \"take 5;excess 6;1x1;1x1;1x1;1x1\"\n";

    /** Refused for what they are told, in every STAGE. */
    private static final String NO_SUCH_TOLD = """
        holder -1 1 1 = false
        holder 10 1 1 = false
        holder 0 100001 1 = false
        holder 0 1 1000000001 = false
        terms 0 1 1 1 = false
        terms 1 21 1 1 = false
        terms 1 1 10001 1 = false
        terms 1 1 1 0 = false
        rule 3 = -1
        rule -1 = -1
        layer 4 1 1 = -1
        layer 0 100001 1 = -1
        layer 0 1 1001 = -1
        drawn 1 0 = -1
        drawn 1 16001 = -1
        give 0 0 1 1 = -1
        give 10 0 1 1 = -1
        give 0 10 1 1 = -1
        give 0 1 0 1 = -1
        give 0 1 1 10001 = -1
        split 1 = -1
        split 11 = -1
        """;
    private static final String NO_SUCH_TRADED = """
        sell 0 0 1 1 = -1
        sell 10 0 1 1 = -1
        sell 0 -2 1 1 = -1
        sell 0 1 0 1 = -1
        sell 0 1 1 10001 = -1
        take 10 1 = -1
        take 0 -1 = -1
        excess 10 1 = -1
        excess 0 100001 = -1
        tail 10 1 = -1
        tail 0 0 = -1
        plan 10 6 = -1
        plan 0 0 = -1
        plan 0 81 = -1
        plan 0 41 = -1
        planFor 10 6 0 = -1
        planFor 0 0 0 = -1
        planFor 0 81 0 = -1
        planFor 0 6 3 = -1
        stand 10 true 1 1 = -1
        stand 0 true 0 1 = -1
        stand 0 true 1 10001 = -1
        withdraw -1 = false
        withdraw 12 = false
        book 0 = -1
        book 161 = -1
        book 41 = -1
        """;
    private static final String NO_SUCH_LOOKED_AT = """
        standing 12 0 = -1
        traded 7 = -1
        depth true 0 = -1
        costOf 0 0 = -1
        needs 0 0 = -1
        buyable 10 = -1
        thinned 10 true = -1
        of 10 0 = -1
        count 20 = -1
        taken 4 0 = -1
        bid 20 0 = -1
        price 4 0 = MIN
        adjusted -1 = -1
        part 10 = -1
        wealth 10 = -1
        gain 10 = MIN
        loss 4 0 = MIN
        tailFor 0 0 0 = -1
        tailPrice 0 0 = -1
        ifClosed 3 0 = -1
        strikeFor 0 = -1
        soldFor 0 0 = -1
        ifTerms 0 1 1 0 = -1
        termsFor 0 1 0 = -1
        priceFor 0 = -1
        lacks 10 = -1
        rank 10 = -1
        """;
    /** Taken while NIL PAID alone. */
    private static final String NOT_NIL_PAID = """
        sell 0 1 1 0 = -9
        sell 0 -1 1 0 = -9
        take 0 1 = -9
        take 0 1000000 = -9
        excess 0 1 = -9
        tail 0 5 = -9
        plan 0 6 = -9
        planFor 0 6 0 = -9
        stand 0 true 1 50 = -9
        stand 0 false 1 50 = -9
        costOf 0 1 = -9
        needs 0 1 = -9
        buyable 0 = -9
        thinned 0 true = -9
        close = -9
        tailFor 0 5 0 = -9
        tailPrice 0 1 = -9
        ifClosed 0 0 = -9
        lacks 0 = -9
        withdraw 0 = false
        """;
    /** Taken BEFORE alone. */
    private static final String NOT_BEFORE = """
        holder 0 1 1 = false
        terms 1 1 1 1 = false
        drawn 1 5 = -9
        split 2 = -9
        open = -9
        """;

    public static void main(String[] args) {
        inEveryStage("no such ones, what is told", NO_SUCH_TOLD);
        inEveryStage("no such ones, what is traded and read", NO_SUCH_TRADED);
        inEveryStage("no such ones, what is looked at", NO_SUCH_LOOKED_AT);
        refusedBefore();
        refusedNilPaid();
        refusedClosedAndDone();
        faults();
        looksChangeNothing();
        e.end();
    }

    private static void inEveryStage(String sentence, String calls) {
        e.edge("refused BEFORE: " + sentence, BEFORE, TAPE, calls);
        e.edge("refused while NIL PAID: " + sentence, NIL_PAID, TAPE, calls);
        e.edge("refused when CLOSED: " + sentence, CLOSED, TAPE, calls);
        e.edge("refused when DONE: " + sentence, DONE, TAPE, calls);
    }

    private static void refusedBefore() {
        e.edge("refused BEFORE: another STAGE", BEFORE, TAPE, NOT_NIL_PAID, """
            done = -9
            anew = -9
            loss 0 0 = -9
            """);
        e.edge("refused BEFORE: -2 to -5", BEFORE, TAPE, """
            give 0 1 401 0 = -2
            give 0 1 1 1 = -3
            give 4 2 1 11 = -4
            give 3 2 100000 0 = -5
            split 2 = -2
            """);
        e.edge("refused BEFORE: no NEW", """
            holder 0 1 5
            holder 1 2 6
            layer 0 5 5
            keep
            holder 2 0 5
            """, TAPE, """
            open = -2
            """);
        e.edge("refused: feed of a full tape, keep of 8, undo of none", "keep\n".repeat(8), "feed 1 2 3 4 5\n".repeat(16), """
            feed 0 0 0 0 0 = -1
            keep = -1
            """);
        e.edge("refused: undo of none", "tape \"5x5\"", """
            holder 0 1 5
            undo = -1
            """);
    }

    private static void refusedNilPaid() {
        e.edge("refused while NIL PAID: another STAGE", NIL_PAID, TAPE, NOT_BEFORE, """
            give 0 1 1 0 = -9
            done = -9
            anew = -9
            loss 0 0 = -9
            """);
        e.edge("refused while NIL PAID: -2 to -4", NIL_PAID, TAPE, """
            sell 2 0 1000000 0 = -2
            sell 2 -1 1000000 0 = -2
            sell 2 1 1 10000 = -3
            sell 3 2 1 1 = -4
            sell 3 -1 1 1 = -4
            take 0 1000000 = -2
            tail 6 5 = -2
            tail 3 5 = -4
            stand 0 true 1000000 5 = -2
            stand 0 false 1000000 5 = -3
            costOf 0 1000000 = -2
            needs 0 1000000 = -2
            tailFor 6 5 0 = -2
            tailPrice 0 1000000 = -2
            """);
    }

    private static void refusedClosedAndDone() {
        e.edge("refused when CLOSED: another STAGE", CLOSED, TAPE, NOT_BEFORE, NOT_NIL_PAID, """
            give 0 1 1 0 = -9
            anew = -9
            loss 0 0 = -9
            """);
        e.edge("refused when DONE: another STAGE", DONE, TAPE, NOT_BEFORE, NOT_NIL_PAID, """
            layer 0 1 1 = -9
            book 6 = -9
            done = -9
            """);
        e.edge("refused when DONE: -2 to -4", DONE, TAPE, """
            give 6 1 1 0 = -2
            give 0 6 1 1 = -3
            sell 0 1 1 0 = -9
            """);
        e.edge("refused when DONE: -4", """
            holder 0 400 999999999
            holder 1 4 10
            open
            close
            done
            keep
            rule 1
            """, TAPE, """
            give 0 1 1 2 = -4
            """);
    }

    private static void faults() {
        e.edge("a FAULT of a PLAN changes the tape alone", NIL_PAID, """
            plan 0 "sell 5 at 5;take 1;excess 2;lapse;tail 5;x" = -1041
            planFor 0 "sell 5 at 5;take 1;excess 2;lapse;tail 5;x" 0 = -1041
            planFor 0 "sell 5 at 5;take 1;excess 2;lapse;tail 5;x" 1 = -1041
            """);
        e.edge("a FAULT of a BOOK changes the tape alone", BEFORE, """
            book "1x2;3x4;5x6;7x8;9x" = -1018
            book "1x2;3x4;5x6;7x8;9x0" = -2018
            """);
        e.edge("a FAULT of a BOOK changes the tape alone, CLOSED", CLOSED, """
            book "1x2;3x4;5x6;7x8;9x" = -1018
            book "1x2;3x4;5x6;7x8;9x0" = -2018
            """);
        e.edge("planFor changes the tape alone", NIL_PAID, """
            planFor 0 "sell 5 at 5;buy 6 from 1 at 7;take 1;excess 2" 0 = 4
            # 112 at 60: 104 at 5 pay for 8
            planFor 0 "buy 6 from 1 at 7;lapse;tail 5" 1 = 8
            planFor 0 "take 1000;lapse" 2 = 10250
            """);
    }

    /** That they answer is asked elsewhere; here, that they leave all as it is. */
    private static void looksChangeNothing() {
        String looks = """
            standing 0 0
            traded 3
            depth true 100
            of 0 1
            count 15
            taken 0 3
            bid 0 2
            price 3 1
            adjusted 1000
            part 0
            wealth 0
            gain 0
            strikeFor 100
            soldFor 100 1
            ifTerms 3 5 70 2
            termsFor 70 100000 0
            priceFor 7000
            rank 3
            """;
        e.looks("what is looked at changes nothing BEFORE", looks, BEFORE, TAPE);
        e.looks("what is looked at changes nothing while NIL PAID", looks + """
            costOf 3 5
            needs 0 20000
            buyable 2
            thinned 0 true
            tailFor 0 5 0
            tailPrice 0 5
            ifClosed 0 1
            ifClosed 1 12
            ifClosed 2 2
            lacks 1
            """, NIL_PAID, TAPE);
        e.looks("what is looked at changes nothing when CLOSED", looks, CLOSED, TAPE);
        e.looks("what is looked at changes nothing when DONE", looks + """
            loss 0 0
            loss 3 1
            """, DONE, TAPE);
    }
}
