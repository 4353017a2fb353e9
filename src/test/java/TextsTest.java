/** Promises 16 to 20: the tape, texts and their faults, what may be sent and what was. */
public final class TextsTest {
    public static void main(String[] args) {
        promise16Feed();
        promise17Text();
        promise17Tokens();
        promise17Limits();
        promise17InPlaceOfTheOneThereWas();
        promise18May();
        promise18Values();
        promise18LastOfSixteenLines();
        promise19Send();
        promise20Sent();
        Due.end();
    }

    private static void promise16Feed() {
        BedBook x = new BedBook();
        Due.is("feed of nothing", x.feed(0, 0, 0), 0);
        Due.is("feed of 10, 32, 126", x.feed(0x0a207eL, 0, 0), 3);
        Due.is("feed of 9, 11, 13, 31, 127, 128, 255", x.feed(0x090b0d1f7f80ffL, -1L, Long.MIN_VALUE), 3);
        Due.is("feed of 24", x.feed(0x2020202020202020L, 0x2020202020202020L, 0x2020202020202020L), 27);
        x.text();
        Due.is("the TAPE is taken", x.count(8), 0);
        Due.is("the highest first", x.feed(Due.eight("let when", 0), Due.eight(" 1+2=3; ", 0), Due.eight("       #", 0)), 24);
        Due.is("places by feeds", x.text(), 1 + 16 * 23);
        for (int i = 1; i <= 25; i++) {
            Due.is("feed, the " + i + "-th", Due.put(x, "                        "), 24 * i);
        }
        Due.is("feed beyond 600", Due.put(x, "#"), 600);
        Due.is("what is beyond is left out", x.text(), 0);
        Due.put(x, " ".repeat(590));
        Due.is("feed over the end", Due.put(x, "let when 1;"), 600);
        Due.is("cut off at 600", x.text(), 1 + 16 * 600);
    }

    private static void fault(String text, int want) {
        BedBook x = new BedBook();
        Due.is("text() of: " + text, Due.read(x, text), want);
        Due.is("the TAPE behind: " + text, x.count(8), 0);
    }

    private static void promise17Text() {
        fault("", 0);
        fault(" \n ", 0);
        fault("let when 1;", 0);
        fault("let\nwhen\n1\n;\nbar when 0 ; ", 0);
        fault("letwhen 1;", 1);
        fault("let when 1", 1 + 16 * 10);
        fault("let when 1  ", 1 + 16 * 12);
        fault("let", 1 + 16 * 3);
        fault("let when", 1 + 16 * 8);
        fault("let when ;", 1 + 16 * 9);
        fault("when 1;", 1);
        fault(";", 1);
        fault("let when 1;;", 1 + 16 * 11);
        fault("let bar when 1;", 1 + 16 * 4);
        fault("let when 1 let when 1;", 1 + 16 * 11);
        fault("let when place name;", 1 + 16 * 15);
        fault("let when 1 < 2 < 3;", 1 + 16 * 15);
        fault("let when 1 = 2 = 3;", 1 + 16 * 15);
        fault("let when 1 < 2 = 3;", 1 + 16 * 15);
        fault("let when (1 < 2) < 3;", 0);
        fault("let when -1;", 1 + 16 * 9);
        fault("let when 1 + ;", 1 + 16 * 13);
        fault("let when 1 - - 1;", 1 + 16 * 13);
        fault("let when 1 and;", 1 + 16 * 14);
        fault("let when and 1;", 1 + 16 * 9);
        fault("let when 1 < and 1;", 1 + 16 * 13);
        fault("let when ();", 1 + 16 * 10);
        fault("let when (1;", 1 + 16 * 11);
        fault("let when 1);", 1 + 16 * 10);
        fault("let when (1 and 2 < (3 + day)) - 1 = pieces;", 0);
        fault("let when place+name+house+aim+cut+pieces+day;", 0);
        fault("let when when;", 1 + 16 * 9);
        fault("let when 1 2 #;", 1 + 16 * 11);
        fault("let when 1 # 2;", 1 + 16 * 11);
    }

    private static void promise17Tokens() {
        fault("let when 1and 2;", 0);
        fault("let when 1and2and 3;", 0);
        fault("let when place5;", 1 + 16 * 14);
        fault("let when9;", 0);
        fault("let when(9)and(1);", 0);
        fault("let when 9999;", 0);
        fault("let when 0000;", 0);
        fault("let when 10000;", 1 + 16 * 9);
        fault("let when 00000;", 1 + 16 * 9);
        fault("let when 1 10000;", 1 + 16 * 11);
        fault("let when 12345678901234567890;", 1 + 16 * 9);
        fault("let when pieces;", 0);
        fault("let when piece;", 1 + 16 * 9);
        fault("let when piecess;", 1 + 16 * 9);
        fault("let when placenames;", 1 + 16 * 9);
        fault("let when place placenames;", 1 + 16 * 15);
        fault("Let when 1;", 1);
        fault("let when Day;", 1 + 16 * 9);
        fault("let when 1 > 2;", 1 + 16 * 11);
        fault("let when 1 == 2;", 1 + 16 * 12);
        fault("let when 1 * 2;", 1 + 16 * 11);
        fault("let when 1_;", 1 + 16 * 10);
        fault("le t when 1;", 1);
        fault("l", 1);
        fault("~", 1);
    }

    private static void promise17Limits() {
        fault("bar when 1;".repeat(16), 0);
        fault("bar when 1;".repeat(16) + " \n", 0);
        fault("bar when 1;".repeat(17), 5 + 16 * 176);
        fault("bar when 1;".repeat(16) + "  let", 5 + 16 * 178);
        fault("bar when 1;".repeat(16) + " when", 1 + 16 * 177);
        fault("bar when 1;".repeat(16) + "#", 1 + 16 * 176);
        fault("bar when 1;".repeat(15) + "bar when;bar when 1;", 1 + 16 * (15 * 11 + 8));
        fault("let when ((((1))));", 0);
        fault("let when (((((1)))));", 5 + 16 * 14);
        fault("let when (((((day)))));", 5 + 16 * 14);
        fault("let when ((((((1))))));", 5 + 16 * 14);
        fault("let when (((((;", 1 + 16 * 14);
        fault("let when (((((and", 1 + 16 * 14);
        fault("let when (((((12345", 1 + 16 * 14);
        fault("let when (((((", 1 + 16 * 14);
        fault("let when ((((1))))+((((1))))<((((1)))) and ((((1))));", 0);
        fault("let when ((((1))))+(((((1)))));", 5 + 16 * 24);
        StringBuilder longest = new StringBuilder("let when 1");
        while (longest.length() < 598) {
            longest.append("+1");
        }
        fault(longest + " ;", 0);
        fault(longest + "+;", 1 + 16 * 599);
    }

    private static void promise17InPlaceOfTheOneThereWas() {
        BedBook x = new BedBook();
        x.wild(1, 9);
        Due.is("without a text", x.may(0, 1, 1), 0);
        Due.is("a first one", Due.read(x, "let when aim = 1; let when aim = 2;"), 0);
        Due.is("lines", x.count(7), 2);
        Due.is("may by the first", x.may(0, 1, 2), 1);
        Due.is("one in its place", Due.read(x, "let when aim = 1;"), 0);
        Due.is("lines", x.count(7), 1);
        Due.is("the first counts no more", x.may(0, 1, 2), 0);
        Due.is("a wrong one", Due.read(x, "let when aim = 2; bar"), 1 + 16 * 21);
        Due.is("the one there was stays: lines", x.count(7), 1);
        Due.is("the one there was stays: may", x.may(0, 1, 1), 1);
        Due.is("the wrong one does not count", x.may(0, 1, 2), 0);
        Due.is("an empty one", x.text(), 0);
        Due.is("lines", x.count(7), 0);
        Due.is("without a line", x.may(0, 1, 1), 0);
    }

    private static void promise18May() {
        BedBook x = new BedBook();
        x.wild(1, 1);
        Due.read(x, "bar when aim = 2; let when house < 5; bar when 1; let when 1;");
        Due.is("may(1, 1, 1)", x.may(1, 1, 1), -1);
        Due.is("may(-1, 1, 1)", x.may(-1, 1, 1), -1);
        Due.is("may(0, -1, 1)", x.may(0, -1, 1), -1);
        Due.is("may(0, 100, 1)", x.may(0, 100, 1), -1);
        Due.is("may(0, 1, -1)", x.may(0, 1, -1), -1);
        Due.is("may(0, 1, 10)", x.may(0, 1, 10), -1);
        Due.is("may(0, 0, 0)", x.may(0, 0, 0), 1);
        Due.is("may(0, 4, 9)", x.may(0, 4, 9), 1);
        Due.is("the first line bars", x.may(0, 4, 2), 0);
        Due.is("the third line bars", x.may(0, 99, 1), 0);
        Due.read(x, "let when house = 7;");
        Due.is("no line tells", x.may(0, 8, 0), 0);
        Due.is("may takes nothing", x.look(0, 3), 1);
        x.send(0, 7, 0);
        Due.is("may without a piece", x.may(0, 7, 0), 1);
    }

    private static void value(BedBook x, int plant, String e, boolean want) {
        Due.is("text of " + e, Due.read(x, "let when " + e + ";"), 0);
        Due.is("may by " + e, x.may(plant, 33, 4), want ? 1 : 0);
    }

    private static void promise18Values() {
        BedBook x = new BedBook();
        x.wild(44, 17);
        x.cut(0, 3);
        x.seed(1, -1, 2);
        x.name(1, 11);
        x.join(11, 12);
        x.days(1000);
        x.join(12, 13);
        x.days(1);
        value(x, 1, "place = 44 and 43 < place and place < 45", true);
        value(x, 2, "place = 44", true);
        value(x, 1, "name = 13", true);
        value(x, 0, "name = 0", true);
        value(x, 0, "house = 33 and aim = 4", true);
        value(x, 0, "cut", false);
        value(x, 1, "cut", true);
        value(x, 1, "cut = 1", true);
        value(x, 2, "cut", false);
        value(x, 0, "pieces = 17", true);
        value(x, 0, "day = 1001", true);
        value(x, 0, "1 - 1", false);
        value(x, 0, "1 - 2", true);
        value(x, 0, "10 - 4 - 3 = 3", true);
        value(x, 0, "10 - (4 - 3) = 9", true);
        value(x, 0, "10 - 4 + 3 = 9", true);
        value(x, 0, "1 - 2 < 0", true);
        value(x, 0, "2 < 2", false);
        value(x, 0, "(1 < 2) = 1", true);
        value(x, 0, "(2 < 1) = 0", true);
        value(x, 0, "(5 = 5) + 1 = 2", true);
        value(x, 0, "7 and 0", false);
        value(x, 0, "0 and 7", false);
        value(x, 0, "(2 and 4) = 1", true);
        value(x, 0, "(2 and 4 and 0 - 3) = 1", true);
        value(x, 0, "(7) = 7", true);
        value(x, 0, "0012 = 12", true);
        value(x, 0, "1 and 2 = 2 and 3", true);
        value(x, 0, "1and 2 < 1and 3", false);
        // as many values wait as ever can: in each of four E's the left of an and, of a <, and of a +
        value(x, 0, "1 and 0 < 1 + (1 and 1 < 1 + (1 and 1 < 1 + (1 and 3 = 1 + 2)))", true);
        value(x, 0, "1 and 1 < 1 + (1 and 1 < 1 + (1 and 1 < 1 + (1 and 1 < 1 + 0)))", false);
    }

    private static void promise18LastOfSixteenLines() {
        BedBook x = new BedBook();
        x.wild(1, 1);
        String zeros = "bar when aim - aim = 1 ;".repeat(15);
        Due.is("sixteen lines", Due.read(x, zeros + "let when 1 and 1 < 1 + (1 and 1 < 1 + (1 and 1 < 1 + (1 and 3 = 1 + 2)));"), 0);
        Due.is("lines", x.count(7), 16);
        Due.is("the last one lets", x.may(0, 1, 1), 1);
        Due.read(x, zeros + "let when 1 and 1 < 1 + (1 and 1 < 1 + (1 and 1 < 1 + (1 and 4 = 1 + 2)));");
        Due.is("the last one does not tell", x.may(0, 1, 1), 0);
    }

    private static void promise19Send() {
        BedBook x = new BedBook();
        x.wild(1, 2);
        x.wild(1, 100);
        Due.no("send without a text", x.send(0, 1, 1));
        Due.read(x, "bar when aim = 0; let when 1;");
        Due.no("send(2, 1, 1)", x.send(2, 1, 1));
        Due.no("send(-1, 1, 1)", x.send(-1, 1, 1));
        Due.no("send(0, 100, 1)", x.send(0, 100, 1));
        Due.no("send(0, -1, 1)", x.send(0, -1, 1));
        Due.no("send(0, 1, 10)", x.send(0, 1, 10));
        Due.no("send(0, 1, -1)", x.send(0, 1, -1));
        Due.no("send that is barred", x.send(0, 1, 0));
        Due.is("none was SENT", x.count(5), 0);
        Due.is("no piece was taken", x.look(0, 3), 2);
        Due.yes("send(0, 1, 1)", x.send(0, 1, 1));
        Due.is("a piece was taken", x.look(0, 3), 1);
        Due.yes("send(0, 1, 1)", x.send(0, 1, 1));
        Due.is("all are gone", x.look(0, 3), 0);
        Due.no("send without a piece", x.send(0, 1, 1));
        Due.is("split without a piece", x.split(0, 1), -1);
        Due.is("cut without a piece", x.cut(0, 5), 2);
        for (int i = 2; i < 100; i++) {
            Due.yes("send, the " + i + "-th", x.send(1, 1, 1));
        }
        Due.is("pieces left", x.look(1, 3), 2);
        Due.no("send, the 101st", x.send(1, 1, 1));
        Due.is("pieces still left", x.look(1, 3), 2);
        Due.is("written", x.count(5), 100);
    }

    private static void promise20Sent() {
        BedBook x = new BedBook();
        x.wild(1, 9);
        x.wild(1, 9);
        Due.read(x, "let when 1;");
        Due.is("sent(0, 0) at first", x.sent(0, 0), -1);
        x.days(3);
        x.send(1, 98, 7);
        x.days(4);
        x.send(0, 5, 0);
        int[][] due = {{1, 98, 7, 3}, {0, 5, 0, 7}};
        for (int i = 0; i < 2; i++) {
            for (int what = 0; what < 4; what++) {
                Due.is("sent(" + i + ", " + what + ")", x.sent(i, what), due[i][what]);
            }
        }
        Due.is("sent(2, 0)", x.sent(2, 0), -1);
        Due.is("sent(-1, 0)", x.sent(-1, 0), -1);
        Due.is("sent(0, 4)", x.sent(0, 4), -1);
        Due.is("sent(0, -1)", x.sent(0, -1), -1);
        Due.is("sent(1, -1)", x.sent(1, -1), -1);
    }
}
