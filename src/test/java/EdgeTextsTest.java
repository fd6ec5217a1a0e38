/** Boundary cases of the texts: what a PLAN and a BOOK may hold, and where a FAULT is told. */
public final class EdgeTextsTest {
    private static final Edge e = new Edge();

    public static void main(String[] args) {
        planLength();
        planNumbers();
        planWords();
        planBlanks();
        planEnd();
        planBytes();
        bookLength();
        bookNumbers();
        bookLetter();
        bookBlanks();
        bookFaults();
        bookTwentyOne();
        e.end();
    }

    /** A plan of HOLDER 0 with 100 RIGHTS, read by plan() and by planFor(). */
    private static void plan(String sentence, String text, int due) {
        String quoted = "\"" + text + "\"";
        String told = due < 0 ? "" + due : "0";
        e.edge("15: " + sentence, Edge.OPENED, "plan 0 " + quoted + " = " + due);
        e.edge("39: " + sentence, Edge.OPENED, "planFor 0 " + quoted + " 0 = " + due);
        if (due < 0) {
            e.edge("39: " + sentence, Edge.OPENED, "planFor 0 " + quoted + " 1 = " + told);
            e.edge("39: " + sentence, Edge.OPENED, "planFor 0 " + quoted + " 2 = " + told);
        }
    }

    private static void book(String sentence, String text, int due) {
        e.edge("26: " + sentence, "book \"77x88\"", "book \"" + text + "\" = " + due);
    }

    private static void planLength() {
        String twelve = "lapse;".repeat(12);
        plan("1 to 80 bytes: 80", twelve + "tail 100", 13);
        plan("1 to 80 bytes: 80, the last is wrong", twelve + "tail 10;", -1080);
        plan("1 to 80 bytes: 81", twelve + "tail 1000", -1);
        plan("1 to 80 bytes: 1", "l", -1000);
        plan("1 to 80 bytes: the shortest", "take0", 1);
        plan("1 to 80 bytes: a fault at 79", twelve + "lapse  x", -1079);
        plan("1 to 80 bytes: the end at 80", twelve + "lapse;  ", -1080);
        plan("as many ORDERS as there is room for", twelve + "lapse   ", 13);
        plan("behind the thirteenth ; a blank", twelve + "lapse; ", -1079);
        plan("behind the thirteenth ; a letter", twelve + "lapse; l", -1079);
        plan("behind the thirteenth ; a digit", twelve + "lapse;7", -1078);
    }

    private static void planNumbers() {
        plan("N: 1 to 6 digits: none", "take", -1004);
        plan("N: 1 to 6 digits: 1", "take 9", 1);
        plan("N: 1 to 6 digits: 6", "take 000100", 1);
        plan("N: 1 to 6 digits: 6, none of them 0", "take 999999", 0);
        plan("a seventh digit", "take 0000001", -1011);
        plan("a seventh digit, at it, not behind it", "take 00000011", -1011);
        plan("a seventh digit at the end of the text", "excess1234567", -1012);
        plan("a seventh digit of the second number", "sell 1 at 1234567", -1016);
        plan("a seventh digit of the third number", "buy 1 from 2 at 1234567", -1022);
        plan("a seventh digit of a HOLDER", "buy 1 from 1234567 at 1", -1017);
        plan("six digits, a blank, a digit: another number", "take 123456 7", -1012);
        plan("a number ahead of an ORDER", "7 take 5", -1000);
        plan("a number where a word is due", "sell 7 8", -1007);
        plan("a number where none is", "take all 5", -1009);
    }

    private static void planWords() {
        plan("words: small letters as many as stand together", "takeall", -1000);
        plan("a word at its first byte: too long", "takes 5", -1000);
        plan("a word at its first byte: too short", "tak 5", -1000);
        plan("a word at its first byte: the last letter is another", "takf 5", -1000);
        plan("a word at its first byte: behind one", "take five", -1005);
        plan("a word at its first byte: too long behind one", "take alls", -1005);
        plan("a word at its first byte: too short behind one", "take al", -1005);
        plan("a word at its first byte: all alone", "all", -1000);
        plan("a word at its first byte: in place of at", "sell 5 to 6", -1007);
        plan("a word at its first byte: in place of from", "buy 5 at 6", -1006);
        plan("a word at its first byte: in place of the second at", "buy 5 from 1 from 6", -1013);
        plan("a word at its first byte: all is of take alone", "excess all", -1007);
        plan("a word at its first byte: where ; is due", "lapse take 5", -1006);
        plan("words and numbers may stand side by side", "sell1at2", 1);
        plan("words and numbers may stand side by side: three", "buy1from2at3;take5", 2);
        plan("two words may not", "takelapse", -1000);
        plan("small letters: a, the first of them", "takea 5", -1000);
        plan("small letters: z, the last of them", "takez 5", -1000);
        plan("small letters: a capital", "Take 5", -1000);
        plan("small letters: a capital within", "taKe 5", -1000);
        plan("small letters: a capital behind", "takeE5", -1004);
    }

    private static void planBlanks() {
        plan("blanks are where one likes: ahead, behind, between", "  take   5  ;  lapse  ", 2);
        plan("blanks are where one likes: none", "take5;lapse", 2);
        plan("not among letters", "ta ke 5", -1000);
        plan("not among letters of the last word", "take a ll", -1005);
        plan("not among digits", "take 1 0", -1007);
        plan("blanks (32): not 9", "take\t5", -1004);
        plan("blanks (32): not 31", "take\u001f5", -1004);
        plan("blanks (32): not 33", "take!5", -1004);
        plan("blanks (32): not 0", "take\u00005", -1004);
        plan("blanks (32): not 160", "take\u00a05", -1004);
        plan("blanks alone: the end: at the length", "   ", -1003);
    }

    private static void planEnd() {
        plan("the end: at the length, behind take", "take", -1004);
        plan("the end: at the length, behind its blanks", "take  ", -1006);
        plan("the end: at the length, behind excess", "excess", -1006);
        plan("the end: at the length, behind tail", "tail", -1004);
        plan("the end: at the length, behind sell", "sell", -1004);
        plan("the end: at the length, behind a number to sell", "sell 5", -1006);
        plan("the end: at the length, behind at", "sell 5 at ", -1010);
        plan("the end: at the length, behind buy", "buy", -1003);
        plan("the end: at the length, behind a number to buy", "buy 5 ", -1006);
        plan("the end: at the length, behind from", "buy 5 from", -1010);
        plan("the end: at the length, behind a HOLDER", "buy 5 from 1", -1012);
        plan("the end: at the length, behind the second at", "buy 5 from 1 at", -1015);
        plan("the end: at the length, behind ;", "lapse;", -1006);
        plan("the end: at the length, behind ; and blanks", "lapse; ", -1007);
        plan("a ; between two: ahead of all", ";lapse", -1000);
        plan("a ; between two: two of them", "lapse;;lapse", -1006);
        plan("a ; between two: none", "lapse lapse", -1006);
        plan("a ; within an ORDER", "take;5", -1004);
        plan("a ; within an ORDER: sell", "sell 5;at 6", -1006);
        plan("the first byte from the left that is wrong", "take x;take y", -1005);
        plan("the first byte from the left: behind a good one", "take 5;take y", -1012);
        plan("a FAULT behind an ORDER that would be refused", "take 999999;x", -1012);
    }

    private static void planBytes() {
        String[] wrong = {"/", ":", "`", "{", "@", "[", "-", "+", ".", ",", "<", "\u007f", "\u0080", "\u00b0", "\u00e1",
            "\u00ff", "\u0001"};
        for (String sign : wrong) {
            plan("it can't stand there: " + (int) sign.charAt(0) + " ahead", sign + "take 5", -1000);
            plan("it can't stand there: " + (int) sign.charAt(0) + " behind a word", "take" + sign + "5", -1004);
            plan("it can't stand there: " + (int) sign.charAt(0) + " behind a number", "take 5" + sign, -1006);
            plan("it can't stand there: " + (int) sign.charAt(0) + " behind ;", "lapse;" + sign, -1006);
            book("it can't stand there: " + (int) sign.charAt(0) + " ahead", sign + "5x5", -1000);
            book("it can't stand there: " + (int) sign.charAt(0) + " behind a price", "5" + sign + "x5", -1001);
            book("it can't stand there: " + (int) sign.charAt(0) + " behind x", "5x" + sign + "5", -1002);
            book("it can't stand there: " + (int) sign.charAt(0) + " behind a number", "5x5" + sign, -1003);
            book("it can't stand there: " + (int) sign.charAt(0) + " behind ;", "5x5;" + sign, -1004);
        }
    }

    private static void bookLength() {
        e.edge("26: the tape's first n bytes (1 to 160)", "tape \"5x6" + " ".repeat(157) + ";\"", """
            count 18 = 180
            book 0 = -1
            book -1 = -1
            book 161 = -1
            book 180 = -1
            book MIN = -1
            book MAX = -1
            book 160 = 1
            count 18 = 0
            """);
        book("1 byte", "5", -1001);
        book("1 byte, a blank", " ", -1001);
        book("160 bytes, the last is wrong", "5x6" + " ".repeat(156) + ";", -1160);
        book("160 bytes, the last is the last digit", " ".repeat(157) + "5x6", 1);
        book("160 bytes of blanks", " ".repeat(160), -1160);
        e.edge("26: NONE: it has not so many (the tape stays)", """
            book 1 = -1
            tape "5x6                 "
            book 21 = -1
            book 160 = -1
            count 18 = 20
            book 20 = 1
            book 1 = -1
            """);
        e.edge("26: the first n bytes alone; (empty then)", """
            tape "5x67;8x9"
            book 3 = 1
            bid 0 1 = 6
            count 18 = 0
            """);
        e.edge("26: -9: DONE (the tape stays), and in no other STAGE; NONE comes first", Edge.SMALL, """
            book "5x6" = 1
            open
            book "5x6;7x8" = 2
            close
            book "5x6;7x8;9x9" = 3
            tape "1x1"
            done
            book 3 = -9
            book 1 = -9
            book 0 = -1
            book 161 = -1
            book 21 = -1
            count 18 = 20
            count 16 = 3
            """);
        e.edge("26: in place of the one ahead", """
            book "5x6;7x8;9x9" = 3
            book "4x3" = 1
            bid 0 0 = 4
            bid 0 1 = 3
            bid 1 0 = -1
            count 16 = 1
            """);
        e.edge("26: in place of the one ahead: its BIDS count no more", """
            book "150x5;160x6;170x7"
            soldFor 18 0 = 18
            book "150x5"
            soldFor 18 0 = 5
            strikeFor 1 = 150
            """);
        e.edge("26: a FAULT (the BOOK stays)", """
            book "5x6;7x8" = 2
            book "4x3;2x1;x" = -1008
            book "4x3;0x1" = -2004
            bid 0 0 = 5
            bid 1 1 = 8
            count 16 = 2
            """);
    }

    private static void bookNumbers() {
        e.edge("26: a price 1 to 10000, a number 1 to 100000: the least", """
            book "1x1" = 1
            bid 0 0 = 1
            bid 0 1 = 1
            """);
        e.edge("26: a price 1 to 10000, a number 1 to 100000: the most", """
            book "10000x100000" = 1
            bid 0 0 = 10000
            bid 0 1 = 100000
            """);
        book("2 a number that there is not: a price 0", "0x1", -2000);
        book("2 a number that there is not: a price 10001", "10001x1", -2000);
        book("2 a number that there is not: a price 999999", "999999x1", -2000);
        book("2 a number that there is not: a number 0", "1x0", -2002);
        book("2 a number that there is not: a number 100001", "1x100001", -2002);
        book("2 a number that there is not: a number 999999", "1x999999", -2002);
        book("N: six digits with zeros ahead", "010000x000001", 1);
        book("N: six zeros", "000000x1", -2000);
        book("a seventh digit", "0000001x1", -1006);
        book("a seventh digit of the number", "1x0000001", -1008);
        book("a price may be what a number may be, not more", "10000x10001", 1);
    }

    private static void bookLetter() {
        book("x is that one letter, whatever stands behind it: a digit", "5x5", 1);
        book("x is that one letter, whatever stands behind it: another x", "5xx5", -1002);
        book("x is that one letter, whatever stands behind it: a letter", "5xa5", -1002);
        book("x is that one letter: w", "5w5", -1001);
        book("x is that one letter: y", "5y5", -1001);
        book("x is that one letter: X", "5X5", -1001);
        book("x is that one letter: not ahead", "x5", -1000);
        book("x is that one letter: a word at its first byte", "5 ax5", -1002);
        book("x is that one letter: not behind a BID", "5x5x", -1003);
    }

    private static void bookBlanks() {
        book("blanks likewise: ahead, behind, between", "  5  x  5  ;  6  x  6  ", 2);
        book("blanks likewise: not among digits", "1 0x5", -1002);
        book("blanks likewise: not among digits of the number", "10x5 0", -1005);
        book("blanks (32): not 9", "5\tx5", -1001);
        book("blanks (32): not 31", "5x5\u001f", -1003);
        book("blanks (32): not 33", "5x!5", -1002);
        book("the end: at the length, behind a price", "5", -1001);
        book("the end: at the length, behind its blanks", "5  ", -1003);
        book("the end: at the length, behind x", "5x", -1002);
        book("the end: at the length, behind its blanks", "5x ", -1003);
        book("the end: at the length, behind ;", "5x5;", -1004);
        book("the end: at the length, behind its blanks", "5x5;  ", -1006);
        book("a ; between two: ahead", ";5x5", -1000);
        book("a ; between two: two", "5x5;;5x5", -1004);
        book("a ; between two: none", "5x5 5x5", -1004);
        book("a ; within a BID", "5;x5", -1001);
        book("a ; within a BID, behind x", "5x;5", -1002);
    }

    private static void bookFaults() {
        book("2 .. at its first digit", "   0x5", -2003);
        book("2 .. at its first digit: of the number", "5 x  0", -2005);
        book("2 .. at its first digit: of the second BID", "5x5; 0x5", -2005);
        book("2 .. told when its digits end: at the end of the text", "0", -2000);
        book("2 .. told when its digits end: the end is wrong, too", "10001", -2000);
        book("2 .. told when its digits end: at a blank", "0 ", -2000);
        book("2 .. told when its digits end: at a byte that can't stand there", "0?", -2000);
        book("2 .. told when its digits end: ahead of a second number", "0 0", -2000);
        book("2 .. told when its digits end: not where a seventh stands", "9999999", -1006);
        book("2 .. told when its digits end: not where a seventh 0 stands", "0000000", -1006);
        book("2 .. told when its digits end: six do", "999999", -2000);
        book("the first from the left: 2 ahead of 1", "5x0;?", -2002);
        book("the first from the left: 1 ahead of 2", "5x?;0x5", -1002);
        book("the first from the left: 2 ahead of 2", "0x0", -2000);
    }

    private static void bookTwentyOne() {
        String twenty = "1x1;".repeat(19) + "2x2";
        e.edge("26: 20 at most", "book \"" + twenty + "\" = 20\n", """
            count 16 = 20
            bid 19 0 = 2
            bid 19 1 = 2
            bid 20 0 = -1
            """);
        book("3 a 21st BID, at its first digit", twenty + ";1x1", -3080);
        book("3 a 21st BID, at its first digit: behind blanks", twenty + " ;  1x1", -3083);
        book("3 .. (told at once): more is wrong with it", twenty + ";1?", -3080);
        book("3 .. (told at once): it ends there", twenty + ";1", -3080);
        book("3 .. (told at once): a number that there is not", twenty + ";0x1", -3080);
        book("3 .. (told at once): a seventh digit", twenty + ";1234567", -3080);
        book("1 behind the twentieth: the end", twenty + ";", -1080);
        book("1 behind the twentieth: the end behind blanks", twenty + "; ", -1081);
        book("1 behind the twentieth: a letter", twenty + ";x1", -1080);
        book("1 behind the twentieth: another ;", twenty + ";;1x1", -1080);
        book("1 behind the twentieth: no ;", twenty + " 1x1", -1080);
        book("the first from the left: a wrong twentieth", "1x1;".repeat(19) + "2x0;1x1", -2078);
        e.edge("26: a 21st BID: the BOOK stays", "book \"" + twenty + "\"\n", "book \"" + twenty + ";1x1\" = -3080\n", """
            count 16 = 20
            bid 19 1 = 2
            """);
    }
}
