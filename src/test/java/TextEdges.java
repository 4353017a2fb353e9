/** The edges of Terms 4 that tell how a text is written, and of promises 16 and 17: the tape, tokens, lines, faults. */
final class TextEdges {
    /** One of each token, and some that are none; "" is the end. */
    private static final String[] TOKENS = {"", "let", "bar", "when", "and", "place", "name", "house", "aim", "cut", "pieces",
        "day", "0", "9999", "(", ")", "<", "=", "+", "-", ";", "x", "e", "n", "letters", "abcdefgh", "abcdefghi", "10000", "#", "A"};
    private static final String PART_STARTS = " place name house aim cut pieces day 0 9999 ( ";

    private TextEdges() {
    }

    static void run() {
        signsOfTheTape();
        sixHundredSigns();
        whatReadsTakes();
        asLongAsCanBe();
        blanks();
        words();
        numbers();
        signs();
        allElse();
        lines();
        sixteenLines();
        andsOfTests();
        testsOfSums();
        sumsOfParts();
        parts();
        fiveWithinOneAnother();
        placeOfAFault();
        theFirstWrongToken();
        theLeastOfAToken();
        feed();
        feedLeavesOut();
        text();
        textInPlace();
    }

    private static void fault(String text, int want) {
        BedBook x = new BedBook();
        Due.is("text() of: " + text, Due.read(x, text), want);
        Due.is("the TAPE behind: " + text, x.count(8), 0);
    }

    private static int wrongAt(int place) {
        return 1 + 16 * place;
    }

    private static boolean isSign(int sign) {
        return sign == 10 || (sign >= 32 && sign <= 126);
    }

    private static void signsOfTheTape() {
        Due.about(Doc.TERMS, "TEXTS. The TAPE has at most 600 signs, 10 and 32 .. 126;");
        for (int sign = 0; sign < 256; sign++) {
            BedBook x = new BedBook();
            long eight = sign * 0x0101010101010101L;
            Due.is("the sign " + sign + " alone", x.feed((long) sign << 56, 0, 0), isSign(sign) ? 1 : 0);
            Due.is("the sign " + sign + " 24 times", x.feed(eight, eight, eight), isSign(sign) ? 25 : 0);
            Due.is("signs on the TAPE", x.count(8), isSign(sign) ? 25 : 0);
        }
    }

    private static BedBook withTape(String behindBlanks, int length) {
        BedBook x = new BedBook();
        Due.is("feed up to " + length, Due.put(x, " ".repeat(length - behindBlanks.length()) + behindBlanks), length);
        return x;
    }

    private static void sixHundredSigns() {
        Due.about(Doc.TERMS, "The TAPE has at most 600 signs");
        BedBook full = withTape("let when 1;", 600);
        Due.is("one more", Due.put(full, "#"), 600);
        Due.is("24 more", Due.put(full, "########################"), 600);
        Due.is("signs", full.count(8), 600);
        Due.is("the first 600 were kept", full.text(), 0);
        Due.is("a line was read", full.count(7), 1);
        BedBook near = withTape("let when 1", 599);
        Due.is("the 600th", Due.put(near, ";#"), 600);
        Due.is("the 601st was left out", near.text(), 0);
        BedBook wrong = withTape("let when 1", 599);
        Due.is("the 600th", Due.put(wrong, "#;"), 600);
        Due.is("the 600th was kept", wrong.text(), wrongAt(599));
    }

    private static void whatReadsTakes() {
        Due.about(Doc.TERMS, "what reads it takes it: it is empty then.");
        BedBook x = new BedBook();
        Due.is("a right one", Due.read(x, "let when 1;"), 0);
        Due.is("it is empty", x.count(8), 0);
        Due.is("a wrong one", Due.read(x, "let when 1;#"), wrongAt(11));
        Due.is("it is empty", x.count(8), 0);
        Due.is("what comes then is at the beginning", Due.put(x, "#"), 1);
        Due.is("and is read alone", x.text(), wrongAt(0));
        Due.is("an empty one is read as empty", x.text(), 0);
        BedBook full = withTape("#", 600);
        Due.is("a full one", full.text(), wrongAt(599));
        Due.is("there is room again", Due.put(full, " ".repeat(600)), 600);
    }

    private static void asLongAsCanBe() {
        Due.about(Doc.TERMS, "TOKENS, each as long as can be,");
        fault("letwhen 1;", wrongAt(0));
        fault("let whenday;", wrongAt(4));
        fault("let when daycut;", wrongAt(9));
        fault("let when day and1;", 0);
        fault("let when dayand 1;", wrongAt(9));
        fault("let when andday;", wrongAt(9));
        BedBook x = new BedBook();
        x.wild(1, 1);
        Due.is("a NUMBER of four", Due.read(x, "let when 1234 - 1000 - 200 - 30 = 4;"), 0);
        Due.is("is one", x.may(0, 0, 0), 1);
    }

    private static void blanks() {
        Due.about(Doc.TERMS, "blanks (10, 32) between where one likes:");
        fault("let when(1)+(day)<2and(1);bar when 1;", 0);
        fault("\n \n let \n\n when \n ( \n 1 \n ) \n + \n day \n < \n 2 \n and \n 3 \n ; \n ", 0);
        fault("let\nwhen\n1;", 0);
        fault("le t when 1;", wrongAt(0));
        fault("let wh\nen 1;", wrongAt(4));
        fault("let when 1 2;", wrongAt(11));
        fault("let when 1\n2;", wrongAt(11));
        fault("let when pie ces;", wrongAt(9));
        fault(" ".repeat(600), 0);
        fault("\n".repeat(600), 0);
        fault(" ".repeat(589) + "let when 1;", 0);
        fault("let" + " ".repeat(300) + "when" + "\n".repeat(290) + "1;", 0);
    }

    private static void words() {
        Due.about(Doc.TERMS, "WORDS (letters a .. z, 8 at most)");
        fault("let when day;", 0);
        fault("let when `day;", wrongAt(9));
        fault("let when day`;", wrongAt(12));
        fault("let when day{;", wrongAt(12));
        fault("let when {;", wrongAt(9));
        fault("Let when day;", wrongAt(0));
        fault("leT when day;", wrongAt(0));
        fault("let when daY;", wrongAt(9));
        fault("let when dayZ;", wrongAt(12));
        fault("let when a;", wrongAt(9));
        fault("let when z;", wrongAt(9));
        fault("let when abcdefgh;", wrongAt(9));
        fault("let when abcdefghi;", wrongAt(9));
        fault("let when day abcdefgh;", wrongAt(13));
        fault("let when day abcdefghi;", wrongAt(13));
        fault("a".repeat(600), wrongAt(0));
    }

    private static void numbers() {
        Due.about(Doc.TERMS, "NUMBERS (1 to 4 digits; a letter may stand right behind)");
        fault("let when 0;", 0);
        fault("let when 0000;", 0);
        fault("let when 9999;", 0);
        fault("let when 00000;", wrongAt(9));
        fault("let when 10000;", wrongAt(9));
        fault("let when 99999;", wrongAt(9));
        fault("let when 4294967297;", wrongAt(9));
        fault("let when 1+10000;", wrongAt(11));
        fault("let when 1and 2;", 0);
        fault("let when 1234and 2;", 0);
        fault("let when 12345and 2;", wrongAt(9));
        fault("let when 1day;", wrongAt(10));
        fault("let when 1234x;", wrongAt(13));
        fault("let when 1/2;", wrongAt(10));
        fault("let when 1:2;", wrongAt(10));
        fault("1".repeat(600), wrongAt(0));
        BedBook x = new BedBook();
        x.wild(1, 1);
        Due.read(x, "let when 9999 = 9998 + 1 and 0009 = 9and 0000 = 0;");
        Due.is("their values", x.may(0, 0, 0), 1);
    }

    private static void signs() {
        Due.about(Doc.TERMS, ", the signs ( ) < = + - and the semicolon.");
        fault("let when (1)<(2)and(3)=(4)+(5)-(6);", 0);
        fault("let when((1));", 0);
        fault("let when 1<<2;", wrongAt(11));
        fault("let when 1<=2;", wrongAt(11));
        fault("let when 1==2;", wrongAt(11));
        fault("let when 1++2;", wrongAt(11));
        fault("let when 1--2;", wrongAt(11));
        fault("let when 1;;", wrongAt(11));
    }

    private static void allElse() {
        Due.about(Doc.TERMS, "All else (a longer WORD or NUMBER, too, at its first sign) is none.");
        String right = "()<=+-; \n";
        for (char sign = 33; sign <= 126; sign++) {
            boolean letterOrDigit = (sign >= 'a' && sign <= 'z') || (sign >= '0' && sign <= '9');
            if (letterOrDigit || right.indexOf(sign) >= 0) {
                continue;
            }
            fault("let when 1" + sign + ";", wrongAt(10));
            fault("let when day" + sign, wrongAt(12));
            fault("let when " + sign + "1;", wrongAt(9));
            fault("" + sign, wrongAt(0));
            fault("let when 1;" + sign, wrongAt(11));
        }
        fault("let when 1 + placename;", wrongAt(13));
        fault("let when 1 + 12345;", wrongAt(13));
        fault("placename", wrongAt(0));
        fault("12345", wrongAt(0));
    }

    /** Every token behind a beginning: those of the list can stand there, all others are wrong. */
    private static void after(String beginning, String canStand) {
        for (String token : TOKENS) {
            String text = beginning + token;
            boolean can = canStand.indexOf(token.isEmpty() ? " END " : " " + token + " ") >= 0;
            boolean whole = token.isEmpty() || token.equals(";");
            if (!can) {
                fault(text, wrongAt(beginning.length()));
            } else {
                fault(text, whole ? 0 : wrongAt(text.length()));
            }
        }
    }

    private static void lines() {
        Due.about(Doc.TERMS, "let when E ; or bar when E ;");
        after("", " let bar END ");
        after("let ", " when ");
        after("bar ", " when ");
        after("let when ", PART_STARTS);
        after("bar when ", PART_STARTS);
        after("let when 1;", " let bar END ");
        after("bar when 1; let when 1; ", " let bar END ");
        after("let when 1; bar ", " when ");
    }

    private static void sixteenLines() {
        Due.about(Doc.TERMS, "TEXT: 16 lines at most");
        for (int lines = 0; lines <= 16; lines++) {
            BedBook x = new BedBook();
            Due.is(lines + " lines", Due.read(x, "bar when 1;".repeat(lines)), 0);
            Due.is("lines", x.count(7), lines);
        }
        fault("bar when 1;".repeat(17), 5 + 16 * 176);
        fault("let when 1;".repeat(18), 5 + 16 * 176);
    }

    private static void andsOfTests() {
        Due.about(Doc.TERMS, "E: TEST { and TEST }.");
        after("let when 1 and ", PART_STARTS);
        after("let when 1 and 2 ", " ; and < = + - ");
        after("let when 1 < 2 and 3 ", " ; and < = + - ");
        after("let when 1 and 2 and ", PART_STARTS);
        Due.about(Doc.TERMS, "(The { } are for \"any more\".)");
        fault("let when 1" + " and 1".repeat(98) + ";", 0);
        fault("let when 1" + "and 1".repeat(117) + ";", 0);
        fault("let when 1" + "+1-1<1and 1+1".repeat(44) + ";", 0);
    }

    private static void testsOfSums() {
        Due.about(Doc.TERMS, "TEST: SUM [ < SUM or = SUM ].");
        String[] signs = {"<", "="};
        for (String sign : signs) {
            after("let when 1 " + sign + " ", PART_STARTS);
            after("let when 1 " + sign + " 2 ", " ; and + - ");
            after("let when 1 " + sign + " (2) ", " ; and + - ");
            after("let when 1 " + sign + " 2 + 3 ", " ; and + - ");
            after("let when (1 " + sign + " 2) ", " ; and < = + - ");
            after("let when (1 " + sign + " 2 ", " ) and + - ");
        }
    }

    private static void sumsOfParts() {
        Due.about(Doc.TERMS, "SUM: PART { + or - PART }.");
        String[] signs = {"+", "-"};
        for (String sign : signs) {
            after("let when 1 " + sign + " ", PART_STARTS);
            after("let when 1 " + sign + " 2 ", " ; and < = + - ");
            after("let when 1 < 2 " + sign + " ", PART_STARTS);
            fault("let when 1" + (sign + "1").repeat(294) + " ;", 0);
        }
    }

    private static void parts() {
        Due.about(Doc.TERMS, "PART: N, place, name, house, aim, cut, pieces, day, ( E );");
        String[] all = {"0", "9999", "place", "name", "house", "aim", "cut", "pieces", "day"};
        for (String part : all) {
            after("let when " + part + " ", " ; and < = + - ");
            after("let when (" + part + " ", " ) and < = + - ");
        }
        after("let when (", PART_STARTS);
        after("let when (1) ", " ; and < = + - ");
        after("let when ((1) ", " ) and < = + - ");
        after("let when ((1)) ", " ; and < = + - ");
        after("let when (1 and ", PART_STARTS);
        after("let when (1 and 2 ", " ) and < = + - ");
        after("let when (1 + ", PART_STARTS);
        after("let when ((((1 ", " ) and < = + - ");
    }

    private static void fiveWithinOneAnother() {
        Due.about(Doc.TERMS, "5 within one another.");
        fault("let when ((((1))));", 0);
        fault("let when ((((1 + day) < 2) and 3) = 4);", 0);
        fault("let when ((((1)))) + ((((1))));", 0);
        fault("let when ((((1)))) and ((((1)))) < ((((1))));", 0);
        fault("let when (((((1)))));", 5 + 16 * 14);
        fault("let when ((((1) + (2))));", 0);
        fault("let when ((((1)+((2)))));", 5 + 16 * 18);
        fault("let when " + "(".repeat(591), 5 + 16 * 14);
        fault("let when 1;let when (((((1)))));", 5 + 16 * 25);
    }

    private static void placeOfAFault() {
        Due.about(Doc.TERMS, "FAULTS, kind + 16 * the place (from 0) of a token, the end being one at the text's length:");
        fault("#", wrongAt(0));
        fault(" #", wrongAt(1));
        fault("let", wrongAt(3));
        fault("let   ", wrongAt(6));
        fault("let when\n\n", wrongAt(10));
        fault("let when 1 ", wrongAt(11));
        fault("let when (1", wrongAt(11));
        fault("let when (((((  ", wrongAt(16));
        fault(" ".repeat(597) + "let", wrongAt(600));
        fault("let" + " ".repeat(597), wrongAt(600));
        fault(" ".repeat(599) + "#", wrongAt(599));
        fault(" ".repeat(585) + "let when (((((1", 5 + 16 * 599);
    }

    private static void theFirstWrongToken() {
        Due.about(Doc.TERMS, "of the first token from the left that is wrong");
        fault("let when 1 2 # 12345;", wrongAt(11));
        fault("let when # when;", wrongAt(9));
        fault("when # let", wrongAt(0));
        fault("let when (((((1 # ", 5 + 16 * 14);
        fault("let when 1 1 (((((1", wrongAt(11));
        fault("bar when 1;".repeat(15) + "bar when ;bar when 1;", wrongAt(174));
        fault("bar when 1;".repeat(16) + "bar # ((((((", 5 + 16 * 176);
        fault("#" + "bar when 1;".repeat(17), wrongAt(0));
    }

    private static void theLeastOfAToken() {
        Due.about(Doc.TERMS, "the least: 1 it is none, or can't stand there; 5 a 17th line (at its first token), a PART within 5 others.");
        String sixteen = "bar when 1;".repeat(16);
        for (String token : TOKENS) {
            boolean begins = token.equals("let") || token.equals("bar");
            fault(sixteen + " \n" + token, token.isEmpty() ? 0 : (begins ? 5 : 1) + 16 * 178);
            boolean part = !token.isEmpty() && PART_STARTS.indexOf(" " + token + " ") >= 0;
            fault("let when (((((" + token, (part ? 5 : 1) + 16 * 14);
            fault("let when ((((1 + (" + token, (part ? 5 : 1) + 16 * 18);
        }
        fault(sixteen + "let when 1;", 5 + 16 * 176);
        fault(sixteen + "let", 5 + 16 * 176);
    }

    private static void feed() {
        Due.about(16, "Up to 24 signs come behind the TAPE: the bytes of a, b, c, of each the highest first;");
        Due.about(16, ": how many there are.");
        for (int place = 0; place < 24; place++) {
            BedBook x = new BedBook();
            String signs = " ".repeat(place) + "#" + " ".repeat(23 - place);
            Due.is("a feed of 24", x.feed(Due.eight(signs, 0), Due.eight(signs, 8), Due.eight(signs, 16)), 24);
            Due.is("the sign of byte " + place, x.text(), wrongAt(place));
            long bit = (long) '#' << 8 * (7 - place % 8);
            Due.is("a sign alone", x.feed(place < 8 ? bit : 0, place / 8 == 1 ? bit : 0, place >= 16 ? bit : 0), 1);
            Due.is("a second one, behind it", x.feed(bit, 0, 0), 2);
        }
        BedBook x = new BedBook();
        Due.is("nothing on an empty one", x.feed(0, 0, 0), 0);
        Due.is("the first ones", x.feed(Due.eight("let when", 0), 0, 0), 8);
        Due.is("nothing", x.feed(0, 0, 0), 8);
        Due.is("behind them", x.feed(0, Due.eight(" 1;", 0), 0), 11);
        Due.is("as one text", x.text(), 0);
    }

    private static void feedLeavesOut() {
        Due.about(16, "others than 10 and 32 .. 126, and what is beyond 600, are left out");
        BedBook x = new BedBook();
        Due.is("all bits", x.feed(-1L, -1L, -1L), 0);
        Due.is("the highest bits", x.feed(Long.MIN_VALUE, 0x8080808080808080L, 0), 0);
        Due.is("signs with the highest bit", x.feed(0xa0a1a2a3a4a5a6a7L, 0xb0b1b2b3b4b5b6b7L, 0x8a8a8a8a8a8a8a8aL), 0);
        Due.is("9, 10, 11, 31, 32, 126, 127, 128", x.feed(0x090a0b1f207e7f80L, 0, 0), 3);
        Due.is("those between were left out", x.text(), wrongAt(2));
        x.feed(0x006c00650074ff20L, 0x77681f656e7f2031L, 0x800000000000003bL);
        Due.is("signs among others", x.count(8), 11);
        Due.is("stand together", x.text(), 0);
        BedBook full = withTape("", 598);
        Due.is("one that is none takes no room", full.feed(0x0101010101012001L, 0x0001000100010023L, 0x2323232323232323L), 600);
        Due.is("the 600th", full.text(), wrongAt(599));
        BedBook rest = withTape("", 590);
        Due.is("24 where 10 fit", Due.put(rest, "          ##############"), 600);
        Due.is("the first 10 were kept", rest.text(), 0);
    }

    private static void text() {
        Due.about(17, "The TAPE is read as a TEXT,");
        Due.about(17, ": 0, or its FAULT.");
        fault("", 0);
        fault("let when 1;", 0);
        fault("let when 1", wrongAt(10));
        fault("let when (((((1)))));", 5 + 16 * 14);
    }

    private static void textInPlace() {
        Due.about(17, "in place of the one there was");
        BedBook x = new BedBook();
        x.wild(1, 1);
        Due.is("an empty one in place of none", x.text(), 0);
        Due.is("lines", x.count(7), 0);
        Due.read(x, "let when 1;".repeat(16));
        Due.is("lines", x.count(7), 16);
        Due.is("it lets", x.may(0, 0, 0), 1);
        Due.is("a wrong one", Due.read(x, "bar when 1; bar when"), wrongAt(20));
        Due.is("is no TEXT: lines", x.count(7), 16);
        Due.is("is no TEXT: may", x.may(0, 0, 0), 1);
        Due.is("one with a 17th line", Due.read(x, "bar when 1;".repeat(17)), 5 + 16 * 176);
        Due.is("is no TEXT: may", x.may(0, 0, 0), 1);
        Due.is("a shorter one", Due.read(x, "let when 0;"), 0);
        Due.is("lines", x.count(7), 1);
        Due.is("it does not let", x.may(0, 0, 0), 0);
        Due.read(x, "let when 1;");
        Due.is("it lets again", x.may(0, 0, 0), 1);
        Due.is("an empty one in its place", Due.read(x, " \n"), 0);
        Due.is("lines", x.count(7), 0);
        Due.is("none lets", x.may(0, 0, 0), 0);
    }
}
