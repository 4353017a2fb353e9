/** The edges of Terms 1 and of promises 1 to 7, 25 and 26: days, plants, marks, looking and counting. */
final class PlantEdges {
    private static final int MIN = Integer.MIN_VALUE;
    private static final int MAX = Integer.MAX_VALUE;
    private static final int NONE = BedBook.NONE;

    private PlantEdges() {
    }

    static void run() {
        theConstant();
        daysOfTheTerms();
        fortyPlants();
        places();
        parents();
        pieces();
        twoNumbersARow();
        marksAtFirst();
        leads();
        beingCut();
        newObject();
        days();
        wild();
        seed();
        cut();
        split();
        mark();
        look();
        lookAtNoneSuch();
        count();
    }

    private static void theConstant() {
        Due.about(Doc.TERMS, "The constants: `NONE = -1`: None.");
        Due.is("NONE", BedBook.NONE, -1);
    }

    private static BedBook onTheLastDay() {
        BedBook x = new BedBook();
        for (int i = 0; i < 9; i++) {
            x.days(1000);
        }
        x.days(999);
        return x;
    }

    private static void daysOfTheTerms() {
        Due.about(Doc.TERMS, "DAYS are 0 to 9999; NOW is one, 0 at first.");
        Due.is("NOW at first", new BedBook().count(1), 0);
        BedBook x = onTheLastDay();
        Due.is("NOW on the last day", x.count(1), 9999);
        Due.is("days(1) behind the last", x.days(1), NONE);
        Due.is("NOW stays", x.count(1), 9999);
        x.wild(1, 1);
        x.name(0, 4);
        Due.is("given on the last day", x.named(0, 9999, 0), 4);
        Due.is("not given the day before", x.named(0, 9998, 0), 0);
        Due.is("not given on day 0", x.named(0, 0, 0), 0);
        Due.noSuch("named(0, 10000, 0)", () -> x.named(0, 10000, 0));
        Due.noSuch("named(0, -1, 0)", () -> x.named(0, -1, 0));
    }

    private static int plantOfKind(BedBook x, int kind, int pieces) {
        switch (kind) {
            case 0: return x.wild(1, pieces);
            case 1: return x.seed(0, NONE, pieces);
            case 2: return x.cut(0, pieces);
            default: return x.split(0, pieces);
        }
    }

    private static void fortyPlants() {
        for (int kind = 0; kind < 4; kind++) {
            Due.about(Doc.TERMS, "PLANTS, 40 at most, are numbered:");
            BedBook x = new BedBook();
            for (int i = 0; i < 39; i++) {
                Due.is("the numbers go up from 0", x.wild(1, 50), i);
            }
            Due.is("the 40th, of kind " + kind, plantOfKind(x, kind, 1), 39);
            Due.is("its kind", x.look(39, 0), kind);
            for (int other = 0; other < 4; other++) {
                Due.about(3 + other, "40 are there");
                Due.is("the 41st, of kind " + other, plantOfKind(x, other, 1), NONE);
            }
            Due.is("PLANTS", x.count(0), 40);
            Due.is("no piece went to the 41st", x.look(0, 3), kind == 3 ? 49 : 50);
            Due.noSuch("look(40, 0)", () -> x.look(40, 0));
        }
    }

    private static void places() {
        Due.about(Doc.TERMS, "WILD ones of a place (0 unknown, 1 .. 99)");
        BedBook x = new BedBook();
        int[] all = {0, 1, 99};
        for (int i = 0; i < 3; i++) {
            Due.is("wild(" + all[i] + ", 1)", x.wild(all[i], 1), i);
            Due.is("its place", x.look(i, 4), all[i]);
        }
        Due.is("wild(-1, 1)", x.wild(-1, 1), NONE);
        Due.is("wild(100, 1)", x.wild(100, 1), NONE);
    }

    private static void parents() {
        Due.about(Doc.TERMS, "SEEDS of a mother and perhaps a father, CUTTINGS of one PLANT, SPLITS of one: parts of its pieces.");
        BedBook x = new BedBook();
        x.wild(1, 5);
        x.seed(0, NONE, 1);
        x.seed(1, 0, 1);
        x.cut(2, 1);
        x.split(0, 2);
        int[][] due = {{0, NONE, NONE, 3}, {1, 0, NONE, 1}, {1, 1, 0, 1}, {2, 2, NONE, 1}, {3, 0, NONE, 2}};
        for (int plant = 0; plant < 5; plant++) {
            for (int what = 0; what < 4; what++) {
                Due.is("look(" + plant + ", " + what + ")", x.look(plant, what), due[plant][what]);
            }
        }
    }

    private static void pieces() {
        Due.about(Doc.TERMS, "Each has pieces (1 .. 100; 0 when all are gone)");
        int[] wrong = {MIN, -1, 0, 101, MAX};
        for (int kind = 0; kind < 3; kind++) {
            BedBook x = new BedBook();
            x.wild(1, 1);
            Due.is("1 piece, kind " + kind, plantOfKind(x, kind, 1), 1);
            Due.is("100 pieces, kind " + kind, plantOfKind(x, kind, 100), 2);
            Due.is("look at 1 piece", x.look(1, 3), 1);
            Due.is("look at 100 pieces", x.look(2, 3), 100);
            for (int pieces : wrong) {
                Due.is(pieces + " pieces, kind " + kind, plantOfKind(x, kind, pieces), NONE);
            }
            Due.is("PLANTS", x.count(0), 3);
        }
        BedBook x = new BedBook();
        x.wild(1, 1);
        Due.read(x, "let when 1;");
        x.send(0, 1, 1);
        Due.is("the last one is gone", x.look(0, 3), 0);
        Due.is("the PLANT is still there", x.count(0), 1);
    }

    private static void twoNumbersARow() {
        Due.about(Doc.TERMS, ", and MARKS: for each of 4 rows two numbers 0 .. 9 (a lesser or equal one ahead).");
        BedBook x = new BedBook();
        x.wild(1, 1);
        int[][] told = {{0, 9}, {9, 0}, {5, 5}, {0, 0}, {9, 9}, {8, 9}, {9, 8}};
        for (int row = 0; row < 4; row++) {
            for (int[] two : told) {
                Due.yes("mark", x.mark(0, row, two[0], two[1]));
                Due.is("ahead in row " + row, x.look(0, 10 + 2 * row), Math.min(two[0], two[1]));
                Due.is("behind in row " + row, x.look(0, 11 + 2 * row), Math.max(two[0], two[1]));
            }
        }
    }

    private static void marksAtFirst() {
        Due.about(Doc.TERMS, "All are 0 at first; CUTTINGS and SPLITS come to be with the MARKS that what they are of has then.");
        BedBook x = new BedBook();
        x.wild(1, 9);
        sameMarks(x, 0, new int[] {0, 0, 0, 0, 0, 0, 0, 0});
        for (int row = 0; row < 4; row++) {
            x.mark(0, row, 9 - row, row);
        }
        int[] then = {0, 9, 1, 8, 2, 7, 3, 6};
        x.cut(0, 1);
        x.split(0, 1);
        x.seed(0, 0, 1);
        x.mark(0, 0, 4, 4);
        sameMarks(x, 1, then);
        sameMarks(x, 2, then);
        sameMarks(x, 3, new int[] {0, 0, 0, 0, 0, 0, 0, 0});
        x.mark(1, 3, 5, 5);
        Due.is("a CUTTING's own ones are told", x.look(1, 16), 5);
        Due.is("not those of what it is of", x.look(0, 16), 3);
        Due.is("nor those of the SPLIT", x.look(2, 16), 3);
    }

    private static void sameMarks(BedBook x, int plant, int[] due) {
        for (int i = 0; i < 8; i++) {
            Due.is("look(" + plant + ", " + (10 + i) + ")", x.look(plant, 10 + i), due[i]);
        }
    }

    private static void leads() {
        Due.about(Doc.TERMS, "It LEADS to the place of the WILD one reached by mothers, and by what it was cut or split from; its ROOT.");
        BedBook x = new BedBook();
        x.wild(7, 100);
        x.wild(8, 100);
        Due.is("a WILD one's own place", x.look(1, 4), 8);
        Due.is("a WILD one's ROOT is itself", x.look(1, 5), 1);
        for (int i = 2; i < 40; i++) {
            int before = i == 2 ? 1 : i - 1;
            int made = i % 3 == 0 ? x.seed(before, 0, 100) : i % 3 == 1 ? x.cut(before, 100) : x.split(before, 1);
            Due.is("made", made, i);
            Due.is("place over " + (i - 1) + " steps", x.look(i, 4), 8);
            Due.is("ROOT over " + (i - 1) + " steps", x.look(i, 5), 1);
        }
        BedBook y = new BedBook();
        y.wild(0, 1);
        y.wild(9, 1);
        y.seed(0, 1, 1);
        Due.is("unknown by the mother, not the father's", y.look(2, 4), 0);
        Due.is("ROOT by the mother", y.look(2, 5), 0);
    }

    private static void beingCut() {
        Due.about(Doc.TERMS, "A PLANT INHERITS: being CUT: 1 if it is a CUTTING, or a SPLIT or CUTTING of one that is CUT.");
        BedBook x = new BedBook();
        x.wild(1, 9);
        int[] made = {x.split(0, 3), x.cut(1, 9), x.split(2, 3), x.cut(3, 9), x.split(4, 3), x.seed(5, 5, 9), x.split(6, 3), x.cut(7, 1)};
        int[] due = {0, 1, 1, 1, 1, 0, 0, 1};
        for (int i = 0; i < due.length; i++) {
            Due.is("CUT of " + made[i], x.look(made[i], 6), due[i]);
        }
        Due.is("what was cut from is not CUT", x.look(1, 6), 0);
    }

    private static void newObject() {
        Due.about(1, "No PLANT, no BED; NOW is 0.");
        BedBook x = new BedBook();
        for (int what = 0; what <= 9; what++) {
            Due.is("count(" + what + ")", x.count(what), 0);
        }
        Due.is("seed", x.seed(0, NONE, 1), NONE);
        Due.is("cut", x.cut(0, 1), NONE);
        Due.is("split", x.split(0, 1), NONE);
        Due.no("mark", x.mark(0, 0, 1, 1));
        Due.no("name", x.name(0, 1));
        Due.noSuch("named", () -> x.named(0, 0, 0));
        Due.no("change", x.change(0, 1, 1));
        Due.no("needs", x.needs(0, 0, 9, 0, 9));
        Due.no("lay", x.lay(0, 0));
        Due.no("lay in none", x.lay(0, NONE));
        Due.is("moves", x.moves(), 0);
        Due.is("may", x.may(0, 1, 1), NONE);
        Due.no("send", x.send(0, 1, 1));
        Due.is("sent", x.sent(0, 0), NONE);
        Due.no("seen", x.seen(0, 1));
        Due.is("close", x.close(0), NONE);
        Due.is("fits", x.fits(0), NONE);
        Due.is("changed", x.changed(0, 1), NONE);
        Due.noSuch("look", () -> x.look(0, 0));
        Due.is("the first PLANT is 0", x.wild(1, 1), 0);
        Due.is("the first BED is 0", x.bed(1, 1, 1), 0);
        Due.is("another one has none of them", new BedBook().count(0), 0);
    }

    private static void days() {
        Due.about(2, "n days pass (0 .. 1000): NOW;");
        BedBook x = new BedBook();
        Due.is("days(0)", x.days(0), 0);
        Due.is("days(1000)", x.days(1000), 1000);
        Due.is("days(1)", x.days(1), 1001);
        Due.about(2, "NONE for another n, beyond 9999.");
        int[] wrong = {MIN, MIN + 1, -1000, -1, 1001, 9000, MAX - 1001, MAX - 1000, MAX};
        for (int n : wrong) {
            Due.is("days(" + n + ")", x.days(n), NONE);
        }
        Due.is("NOW stays", x.count(1), 1001);
        BedBook late = onTheLastDay();
        Due.is("days(0) on the last", late.days(0), 9999);
        Due.is("days(1) on the last", late.days(1), NONE);
        Due.is("days(1000) on the last", late.days(1000), NONE);
        Due.is("days(MAX) on the last", late.days(MAX), NONE);
        BedBook near = new BedBook();
        for (int i = 0; i < 9; i++) {
            near.days(1000);
        }
        Due.is("days(1000) from 9000", near.days(1000), NONE);
        Due.is("days(999) from 9000", near.days(999), 9999);
    }

    private static void wild() {
        Due.about(3, "A WILD PLANT: its number;");
        BedBook x = new BedBook();
        Due.is("the first", x.wild(0, 1), 0);
        Due.is("the second", x.wild(99, 100), 1);
        Due.is("kind", x.look(1, 0), 0);
        Due.is("mother", x.look(1, 1), NONE);
        Due.is("father", x.look(1, 2), NONE);
        Due.about(3, "NONE: another place (0 .. 99), pieces, 40 are there.");
        int[] wrongPlaces = {MIN, -1, 100, MAX};
        for (int place : wrongPlaces) {
            Due.is("wild(" + place + ", 1)", x.wild(place, 1), NONE);
        }
        int[] wrongPieces = {MIN, -1, 0, 101, MAX};
        for (int pieces : wrongPieces) {
            Due.is("wild(1, " + pieces + ")", x.wild(1, pieces), NONE);
        }
        Due.is("both wrong", x.wild(100, 101), NONE);
        Due.is("no number is lost", x.wild(1, 1), 2);
    }

    private static void seed() {
        Due.about(4, "A SEED of a mother and a father (NONE: not known): its number;");
        BedBook x = new BedBook();
        x.wild(1, 1);
        x.wild(2, 1);
        Due.is("seed(0, 1, 1)", x.seed(0, 1, 1), 2);
        Due.is("seed(1, NONE, 100)", x.seed(1, NONE, 100), 3);
        Due.is("father", x.look(2, 2), 1);
        Due.is("father not known", x.look(3, 2), NONE);
        Due.is("of the newest ones", x.seed(3, 3, 1), 4);
        Due.is("no piece goes from the mother", x.look(1, 3), 1);
        Due.about(4, "NONE: none such, pieces, 40 are there.");
        int[] none = {MIN, -2, 5, 39, 40, MAX};
        for (int plant : none) {
            Due.is("seed(" + plant + ", 0, 1)", x.seed(plant, 0, 1), NONE);
            Due.is("seed(0, " + plant + ", 1)", x.seed(0, plant, 1), NONE);
        }
        Due.is("seed(NONE, 0, 1)", x.seed(NONE, 0, 1), NONE);
        Due.is("seed(NONE, NONE, 1)", x.seed(NONE, NONE, 1), NONE);
        int[] wrongPieces = {MIN, -1, 0, 101, MAX};
        for (int pieces : wrongPieces) {
            Due.is("seed(0, 1, " + pieces + ")", x.seed(0, 1, pieces), NONE);
        }
        Due.is("PLANTS", x.count(0), 5);
    }

    private static void cut() {
        Due.about(5, "A CUTTING with so many pieces: its number;");
        BedBook x = new BedBook();
        x.wild(1, 1);
        Due.is("more pieces than what it is of has", x.cut(0, 100), 1);
        Due.is("pieces", x.look(1, 3), 100);
        Due.is("no piece goes from it", x.look(0, 3), 1);
        Due.is("of the newest one", x.cut(1, 1), 2);
        Due.about(5, "NONE: no such PLANT, pieces, 40 are there.");
        int[] none = {MIN, -1, 3, 39, 40, MAX};
        for (int plant : none) {
            Due.is("cut(" + plant + ", 1)", x.cut(plant, 1), NONE);
        }
        int[] wrongPieces = {MIN, -1, 0, 101, MAX};
        for (int pieces : wrongPieces) {
            Due.is("cut(0, " + pieces + ")", x.cut(0, pieces), NONE);
        }
        Due.is("PLANTS", x.count(0), 3);
        Due.read(x, "let when 1;");
        x.send(0, 1, 1);
        Due.is("of one without a piece", x.cut(0, 1), 3);
    }

    private static void split() {
        Due.about(6, "A SPLIT: so many pieces go from one to a new one: its number;");
        BedBook x = new BedBook();
        x.wild(1, 100);
        Due.is("split(0, 99)", x.split(0, 99), 1);
        Due.is("left", x.look(0, 3), 1);
        Due.is("gone over", x.look(1, 3), 99);
        Due.about(6, "NONE: no such PLANT, not 1 .. all but one of its pieces, 40 are there.");
        int[] none = {MIN, -1, 2, 39, 40, MAX};
        for (int plant : none) {
            Due.is("split(" + plant + ", 1)", x.split(plant, 1), NONE);
        }
        int[] wrongPieces = {MIN, -1, 0, 99, 100, 101, MAX};
        for (int pieces : wrongPieces) {
            Due.is("split(1, " + pieces + ") of 99", x.split(1, pieces), NONE);
        }
        Due.is("split(0, 1) of one piece", x.split(0, 1), NONE);
        Due.is("refused ones take none", x.look(1, 3), 99);
        Due.is("split(1, 1)", x.split(1, 1), 2);
        Due.is("split(1, 97) of 98", x.split(1, 97), 3);
        Due.is("one is left", x.look(1, 3), 1);
        Due.read(x, "let when 1;");
        x.send(0, 1, 1);
        Due.is("split(0, 1) without a piece", x.split(0, 1), NONE);
        Due.is("split(0, 0) without a piece", x.split(0, 0), NONE);
        Due.is("split(0, -1) without a piece", x.split(0, -1), NONE);
    }

    private static void mark() {
        Due.about(7, "The MARKS of a PLANT in a row (0 .. 3), told in any order (the lesser one lies ahead): true;");
        BedBook x = new BedBook();
        x.wild(1, 1);
        Due.yes("mark(0, 0, 0, 9)", x.mark(0, 0, 0, 9));
        Due.yes("mark(0, 3, 9, 0)", x.mark(0, 3, 9, 0));
        sameMarks(x, 0, new int[] {0, 9, 0, 0, 0, 0, 0, 9});
        Due.about(7, "false: no such PLANT, row, other numbers.");
        int[] none = {MIN, -1, 1, 40, MAX};
        for (int plant : none) {
            Due.no("mark(" + plant + ", 0, 1, 1)", x.mark(plant, 0, 1, 1));
        }
        int[] wrongRows = {MIN, -1, 4, MAX};
        for (int row : wrongRows) {
            Due.no("mark(0, " + row + ", 1, 1)", x.mark(0, row, 1, 1));
        }
        int[] wrongMarks = {MIN, -1, 10, MAX};
        for (int m : wrongMarks) {
            Due.no("mark(0, 0, " + m + ", 1)", x.mark(0, 0, m, 1));
            Due.no("mark(0, 0, 1, " + m + ")", x.mark(0, 0, 1, m));
            Due.no("mark(0, 0, " + m + ", " + m + ")", x.mark(0, 0, m, m));
        }
        sameMarks(x, 0, new int[] {0, 9, 0, 0, 0, 0, 0, 9});
    }

    private static void look() {
        Due.about(25, "Of a PLANT, what 0: 0 WILD, 1 SEED, 2 CUTTING, 3 SPLIT, 1: its mother, what it is of (NONE),"
            + " 2: father (NONE), 3: pieces, 4: to what place it LEADS, 5: its ROOT, 6: 1 if CUT, 7: its BED (NONE),"
            + " 8: how often missed in a row, 9: 1 if DEAD, 10 .. 17: MARKS by rows.");
        BedBook x = new BedBook();
        x.bed(1, 1, 9);
        x.wild(55, 66);
        x.wild(44, 1);
        x.seed(1, 0, 9);
        x.cut(2, 33);
        x.split(3, 32);
        x.bed(2, 2, 9);
        for (int i = 0; i < 8; i++) {
            x.mark(4, i / 2, i, 9 - i % 2);
        }
        x.lay(4, 1);
        x.close(1);
        x.close(1);
        x.close(1);
        int[][] due = {
            {0, NONE, NONE, 66, 55, 0, 0, NONE, 0, 0, 0, 0, 0, 0, 0, 0, 0, 0},
            {0, NONE, NONE, 1, 44, 1, 0, NONE, 0, 0, 0, 0, 0, 0, 0, 0, 0, 0},
            {1, 1, 0, 9, 44, 1, 0, NONE, 0, 0, 0, 0, 0, 0, 0, 0, 0, 0},
            {2, 2, NONE, 1, 44, 1, 1, NONE, 0, 0, 0, 0, 0, 0, 0, 0, 0, 0},
            {3, 3, NONE, 32, 44, 1, 1, 1, 3, 1, 1, 8, 3, 8, 5, 8, 7, 8}};
        for (int plant = 0; plant < 5; plant++) {
            for (int what = 0; what < 18; what++) {
                Due.is("look(" + plant + ", " + what + ")", x.look(plant, what), due[plant][what]);
            }
        }
    }

    private static void lookAtNoneSuch() {
        Due.about(25, "NoSuchElementException: none such.");
        BedBook x = new BedBook();
        Due.noSuch("look(0, 0) without a PLANT", () -> x.look(0, 0));
        x.wild(1, 1);
        int[] none = {MIN, -1, 1, 39, 40, MAX};
        for (int plant : none) {
            Due.noSuch("look(" + plant + ", 0)", () -> x.look(plant, 0));
            Due.noSuch("look(" + plant + ", 10)", () -> x.look(plant, 10));
        }
        int[] wrong = {MIN, -1, 18, 19, MAX};
        for (int what : wrong) {
            Due.noSuch("look(0, " + what + ")", () -> x.look(0, what));
        }
        Due.is("look(0, 17)", x.look(0, 17), 0);
    }

    private static void count() {
        Due.about(26, "What 0: PLANTS, 1: NOW, 2: BEDS, 3: NAMES given, 4: JOINS and PARTINGS told, 5: SENT, 6: DEAD,"
            + " 7: lines of the text, 8: signs on the TAPE, 9: PLANTS that lie.");
        BedBook x = new BedBook();
        x.days(12);
        for (int i = 0; i < 7; i++) {
            x.wild(1, 9);
        }
        x.bed(1, 1, 9);
        x.bed(1, 1, 9);
        for (int i = 0; i < 5; i++) {
            x.lay(i, i % 2);
            x.name(0, 3);
        }
        x.name(6, 3);
        x.join(3, 4);
        x.join(3, 4);
        x.join(3, 0);
        x.join(9, 0);
        Due.read(x, "bar when 0; let when 1; let when 1; let when 1; let when 1; let when 1; let when 1; let when 1;");
        x.send(0, 1, 1);
        Due.put(x, "  ##");
        x.close(0);
        x.close(0);
        int[] due = {7, 12, 2, 6, 4, 1, 3, 8, 4, 5};
        for (int what = 0; what <= 9; what++) {
            Due.is("count(" + what + ")", x.count(what), due[what]);
        }
        Due.about(26, "NONE for another what.");
        int[] wrong = {MIN, -2, -1, 10, 11, MAX};
        for (int what : wrong) {
            Due.is("count(" + what + ")", x.count(what), NONE);
        }
    }
}
