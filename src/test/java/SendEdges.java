/** The edges of Terms 4 that tell what may be sent, and of promises 18 to 20: values, what is let go, what was sent. */
final class SendEdges {
    private static final int MIN = Integer.MIN_VALUE;
    private static final int MAX = Integer.MAX_VALUE;
    private static final int NONE = BedBook.NONE;

    private SendEdges() {
    }

    static void run() {
        firstLineThatIsNot0();
        longTextsOneAfterAnother();
        factPlace();
        factName();
        factCut();
        factPieces();
        factDay();
        ands();
        compares();
        sums();
        sendOfTheTerms();
        may();
        mayNoneSuch();
        send();
        sendRefused();
        hundredSent();
        sent();
        sentNoneSuch();
    }

    private static BedBook onePlant(String text) {
        BedBook x = new BedBook();
        x.wild(44, 100);
        Due.is("text() of: " + text, Due.read(x, text), 0);
        return x;
    }

    private static void lets(BedBook x, int plant, String e, boolean want) {
        Due.is("text() of: " + e, Due.read(x, "let when " + e + ";"), 0);
        Due.is("may by: " + e, x.may(plant, 33, 4), want ? 1 : 0);
    }

    private static void firstLineThatIsNot0() {
        Due.about(Doc.TERMS, "A PLANT may be sent to a house (0 .. 99) for an aim (0 .. 9) if the first line whose E is not 0 lets (without one it may not):");
        Due.is("without a text", plain().may(0, 0, 0), 0);
        Due.is("without a line", onePlant("").may(0, 0, 0), 0);
        Due.is("all are 0", onePlant("let when 0; let when 1 - 1;").may(0, 0, 0), 0);
        Due.is("the first lets", onePlant("let when 1; bar when 1;").may(0, 0, 0), 1);
        Due.is("the first bars", onePlant("bar when 1; let when 1;").may(0, 0, 0), 0);
        Due.is("the first that is not 0 lets", onePlant("bar when 0; let when 2; bar when 1;").may(0, 0, 0), 1);
        Due.is("the first that is not 0 bars", onePlant("let when 0; bar when 2; let when 1;").may(0, 0, 0), 0);
        Due.is("less than 0 is not 0", onePlant("let when 0 - 1;").may(0, 0, 0), 1);
        Due.is("less than 0 bars", onePlant("bar when 0 - 9999; let when 1;").may(0, 0, 0), 0);
        String zeros = "bar when 0;".repeat(15);
        Due.is("the 16th lets", onePlant(zeros + "let when 1;").may(0, 0, 0), 1);
        Due.is("the 16th is 0", onePlant(zeros + "let when 0;").may(0, 0, 0), 0);
        String deep = "let when 1 and 1 < 1 + (1 and 1 < 1 + (1 and 1 < 1 + (1 and 1 < 1 + (";
        Due.is("the 16th lets, deep", onePlant(zeros + deep + "1 and 1 < 2))));").may(0, 0, 0), 1);
        Due.is("the 16th is 0, deep", onePlant(zeros + deep + "1 and 1 < 1))));").may(0, 0, 0), 0);
        BedBook x = onePlant("let when house = 0 and aim = 9; let when house = 99 and aim = 0;");
        Due.is("house 0, aim 9", x.may(0, 0, 9), 1);
        Due.is("house 99, aim 0", x.may(0, 99, 0), 1);
        Due.is("house 99, aim 9", x.may(0, 99, 9), 0);
        Due.is("house 0, aim 0", x.may(0, 0, 0), 0);
    }

    private static void longTextsOneAfterAnother() {
        Due.about(17, "in place of the one there was");
        BedBook x = plain();
        for (int i = 0; i < 8; i++) {
            String text = "let when 1" + "+1-1".repeat(146) + "-" + i % 2 + ";";
            Due.is("the " + i + "-th one", Due.read(x, text), 0);
            Due.is("the " + i + "-th one counts", x.may(0, 0, 0), 1 - i % 2);
        }
    }

    private static BedBook plain() {
        BedBook x = new BedBook();
        x.wild(1, 1);
        return x;
    }

    private static void factPlace() {
        Due.about(Doc.TERMS, "place: to which it LEADS;");
        BedBook x = new BedBook();
        x.wild(0, 1);
        x.wild(99, 9);
        x.seed(1, 0, 9);
        x.split(2, 1);
        x.seed(0, 1, 1);
        lets(x, 0, "place", false);
        lets(x, 0, "place = 0", true);
        lets(x, 1, "place = 99", true);
        lets(x, 3, "place = 99", true);
        lets(x, 4, "place = 0", true);
    }

    private static void factName() {
        Due.about(Doc.TERMS, "name: SAID as of NOW;");
        BedBook x = plain();
        x.join(1, 50);
        lets(x, 0, "name = 0", true);
        x.days(1);
        x.name(0, 1);
        lets(x, 0, "name = 50", true);
        x.days(1);
        lets(x, 0, "name = 50", true);
        x.join(1, 0);
        lets(x, 0, "name = 1", true);
        x.join(1, 2);
        lets(x, 0, "name = 2", true);
    }

    private static void factCut() {
        Due.about(Doc.TERMS, "cut: 1 if it is CUT;");
        BedBook x = new BedBook();
        x.wild(1, 9);
        x.cut(0, 9);
        x.split(1, 1);
        x.split(0, 1);
        x.seed(1, NONE, 1);
        int[] due = {0, 1, 1, 0, 0};
        for (int plant = 0; plant < 5; plant++) {
            lets(x, plant, "cut", due[plant] == 1);
            lets(x, plant, "cut = " + due[plant], true);
        }
    }

    private static void factPieces() {
        Due.about(Doc.TERMS, "pieces: how many it has;");
        BedBook x = new BedBook();
        x.wild(1, 100);
        lets(x, 0, "pieces = 100", true);
        x.split(0, 98);
        lets(x, 0, "pieces = 2", true);
        lets(x, 1, "pieces = 98", true);
        lets(x, 0, "pieces", true);
        x.send(0, 33, 4);
        lets(x, 0, "pieces = 1", true);
        x.send(0, 33, 4);
        lets(x, 0, "pieces = 0", true);
        lets(x, 0, "pieces", false);
    }

    private static void factDay() {
        Due.about(Doc.TERMS, "day: NOW.");
        BedBook x = plain();
        lets(x, 0, "day = 0", true);
        lets(x, 0, "day", false);
        x.days(1);
        Due.is("the same text on another day", x.may(0, 33, 4), 1);
        for (int i = 0; i < 9; i++) {
            x.days(1000);
        }
        x.days(998);
        lets(x, 0, "day = 9999", true);
        lets(x, 0, "day < 9999", false);
    }

    private static void ands() {
        Due.about(Doc.TERMS, "\"and\": 1 if both sides are not 0.");
        BedBook x = plain();
        int[] sides = {0, 1, 2, 9999};
        for (int a : sides) {
            for (int b : sides) {
                lets(x, 0, a + " and " + b, a != 0 && b != 0);
                lets(x, 0, "(" + a + " and " + b + ") = " + (a != 0 && b != 0 ? 1 : 0), true);
            }
        }
        BedBook y = plain();
        lets(y, 0, "(0 - 1 and 0 - 2) = 1", true);
        lets(y, 0, "(0 - 1 and 1) = 1", true);
        lets(y, 0, "1 and 1 and 0", false);
        lets(y, 0, "0 and 1 and 1", false);
        lets(y, 0, "1 and 0 and 1", false);
        lets(y, 0, "(3 and 3 and 3) = 1", true);
    }

    private static void compares() {
        Due.about(Doc.TERMS, "<, = tell 1 or 0.");
        BedBook x = plain();
        lets(x, 0, "(1 < 2) = 1", true);
        lets(x, 0, "(2 < 2) = 0", true);
        lets(x, 0, "(3 < 2) = 0", true);
        lets(x, 0, "(2 = 2) = 1", true);
        lets(x, 0, "(2 = 3) = 0", true);
        lets(x, 0, "(0 - 1 < 0) = 1", true);
        lets(x, 0, "(0 < 0 - 1) = 0", true);
        lets(x, 0, "(0 - 1 = 1) = 0", true);
        lets(x, 0, "0 = 0", true);
        lets(x, 0, "9998 < 9999", true);
    }

    private static void sums() {
        Due.about(Doc.TERMS, "SUM: PART { + or - PART }.");
        BedBook x = plain();
        lets(x, 0, "9 - 5 - 3 = 1", true);
        lets(x, 0, "9 - (5 - 3) = 7", true);
        lets(x, 0, "9 - 5 + 3 = 7", true);
        lets(x, 0, "0 - 9999 - 9999 < 0 - 9999", true);
        lets(x, 0, "1 + 1 < 1 + 2 and 2 - 1 = 1", true);
        lets(x, 0, "9999" + "+9999".repeat(100) + " = 9999", false);
        lets(x, 0, "9999" + "-9999".repeat(100) + " < 0", true);
        lets(x, 0, "9999" + "+9999-9999".repeat(50) + " = 9999", true);
    }

    private static void sendOfTheTerms() {
        Due.about(Doc.TERMS, "A SEND takes one piece, is written (100 at most), and is refused without a piece, too.");
        BedBook x = new BedBook();
        x.wild(1, 2);
        Due.read(x, "let when 1;");
        Due.yes("with two pieces", x.send(0, 1, 1));
        Due.is("one is left", x.look(0, 3), 1);
        Due.yes("with one piece", x.send(0, 1, 1));
        Due.is("none is left", x.look(0, 3), 0);
        Due.no("without a piece", x.send(0, 1, 1));
        Due.is("none is left", x.look(0, 3), 0);
        Due.is("written", x.count(5), 2);
        Due.is("what was refused is not written", x.sent(2, 0), NONE);
    }

    private static void may() {
        Due.about(18, "Whether a PLANT may be sent: 1 or 0;");
        BedBook x = onePlant("bar when aim = 3; let when house - 5;");
        Due.is("it may", x.may(0, 0, 0), 1);
        Due.is("it is barred", x.may(0, 0, 3), 0);
        Due.is("no line is not 0", x.may(0, 5, 0), 0);
        Due.is("nothing is taken", x.look(0, 3), 100);
        Due.is("nothing is written", x.count(5), 0);
        BedBook y = new BedBook();
        y.wild(1, 1);
        Due.read(y, "let when 1;");
        y.send(0, 1, 1);
        Due.is("a text may let go one without a piece", y.may(0, 1, 1), 1);
    }

    private static void mayNoneSuch() {
        Due.about(18, "NONE: no such PLANT, house, aim.");
        BedBook x = onePlant("let when 1;");
        int[] none = {MIN, -1, 1, 39, 40, MAX};
        for (int plant : none) {
            Due.is("may(" + plant + ", 0, 0)", x.may(plant, 0, 0), NONE);
        }
        int[] wrongHouses = {MIN, -1, 100, MAX};
        for (int house : wrongHouses) {
            Due.is("may(0, " + house + ", 0)", x.may(0, house, 0), NONE);
        }
        int[] wrongAims = {MIN, -1, 10, MAX};
        for (int aim : wrongAims) {
            Due.is("may(0, 0, " + aim + ")", x.may(0, 0, aim), NONE);
        }
        Due.is("may(0, 99, 9)", x.may(0, 99, 9), 1);
        Due.is("may(0, 0, 0)", x.may(0, 0, 0), 1);
    }

    private static void send() {
        Due.about(19, "It is SENT: true;");
        BedBook x = onePlant("let when 1;");
        Due.yes("send(0, 0, 0)", x.send(0, 0, 0));
        Due.yes("send(0, 99, 9)", x.send(0, 99, 9));
        Due.is("pieces", x.look(0, 3), 98);
        Due.is("SENT", x.count(5), 2);
    }

    private static void sendRefused() {
        Due.about(19, "false: not so, no piece, 100 are written.");
        BedBook x = onePlant("bar when aim = 3; let when house < 50; let when house = 99;");
        int[] none = {MIN, -1, 1, 40, MAX};
        for (int plant : none) {
            Due.no("send(" + plant + ", 0, 0)", x.send(plant, 0, 0));
        }
        int[] wrongHouses = {MIN, -1, 100, MAX};
        for (int house : wrongHouses) {
            Due.no("send(0, " + house + ", 0)", x.send(0, house, 0));
        }
        int[] wrongAims = {MIN, -1, 10, MAX};
        for (int aim : wrongAims) {
            Due.no("send(0, 0, " + aim + ")", x.send(0, 0, aim));
        }
        Due.no("barred", x.send(0, 0, 3));
        Due.no("not let", x.send(0, 50, 0));
        Due.is("no piece is taken", x.look(0, 3), 100);
        Due.is("nothing is written", x.count(5), 0);
        Due.is("nothing is written", x.sent(0, 0), NONE);
        Due.no("without a text", plain().send(0, 0, 0));
    }

    private static void hundredSent() {
        Due.about(19, "100 are written.");
        BedBook x = onePlant("let when 1;");
        x.wild(1, 100);
        for (int i = 0; i < 99; i++) {
            Due.yes("SENT, the " + (i + 1) + "-th", x.send(i % 2, i, i % 10));
        }
        Due.yes("the 100th", x.send(1, 99, 9));
        Due.no("the 101st", x.send(0, 1, 1));
        Due.no("the 101st of the other", x.send(1, 1, 1));
        Due.is("SENT", x.count(5), 100);
        Due.is("no piece of 0 is taken", x.look(0, 3), 50);
        Due.is("no piece of 1 is taken", x.look(1, 3), 50);
        Due.is("it still may", x.may(0, 1, 1), 1);
        Due.is("the first is kept", x.sent(0, 1), 0);
        Due.is("the last is kept", x.sent(99, 1), 99);
        Due.is("sent(100, 0)", x.sent(100, 0), NONE);
    }

    private static void sent() {
        Due.about(20, "Of the i-th that was SENT, what 0: the PLANT, 1: house, 2: aim, 3: day;");
        BedBook x = onePlant("let when 1;");
        x.wild(1, 9);
        x.send(1, 99, 9);
        x.days(7);
        x.send(0, 0, 0);
        x.days(1);
        x.send(1, 5, 6);
        int[][] due = {{1, 99, 9, 0}, {0, 0, 0, 7}, {1, 5, 6, 8}};
        for (int i = 0; i < 3; i++) {
            for (int what = 0; what < 4; what++) {
                Due.is("sent(" + i + ", " + what + ")", x.sent(i, what), due[i][what]);
            }
        }
    }

    private static void sentNoneSuch() {
        Due.about(20, "NONE: none such.");
        BedBook x = onePlant("let when 1;");
        Due.is("when none was", x.sent(0, 0), NONE);
        x.send(0, 1, 1);
        x.send(0, 1, 1);
        int[] none = {MIN, -1, 2, 99, 100, MAX};
        for (int i : none) {
            for (int what = 0; what < 4; what++) {
                Due.is("sent(" + i + ", " + what + ")", x.sent(i, what), NONE);
            }
        }
        int[] wrong = {MIN, -4, -1, 4, MAX};
        for (int what : wrong) {
            Due.is("sent(0, " + what + ")", x.sent(0, what), NONE);
            Due.is("sent(1, " + what + ")", x.sent(1, what), NONE);
        }
    }
}
