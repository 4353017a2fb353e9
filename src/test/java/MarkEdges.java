/** The edges of Terms 5 that tell of marks, and of promises 23 and 24: what fits, and which two are changed. */
final class MarkEdges {
    private static final int MIN = Integer.MIN_VALUE;
    private static final int MAX = Integer.MAX_VALUE;
    private static final int NONE = BedBook.NONE;

    private MarkEdges() {
    }

    static void run() {
        motherAndFather();
        motherAlone();
        eachRow();
        rowsApart();
        ofOne();
        wildOnes();
        changedOfTheTerms();
        changedAsThatIs();
        fits();
        fitsNoneSuch();
        changed();
        changedNoSuchTwo();
    }

    private static boolean has(int[] two, int number) {
        return two[0] == number || two[1] == number;
    }

    private static void motherAndFather() {
        Due.about(Doc.TERMS, "MARKS FIT a mother and a father if in each row one of the two numbers is one of the mother's,"
            + " and the other one one of the father's (either way round);");
        int[][] parents = {{0, 0}, {9, 9}, {0, 9}, {1, 2}, {1, 1}};
        for (int[] mother : parents) {
            for (int[] father : parents) {
                BedBook x = new BedBook();
                x.wild(1, 1);
                x.wild(1, 1);
                x.seed(0, 1, 1);
                x.mark(0, 0, mother[0], mother[1]);
                x.mark(1, 0, father[0], father[1]);
                allPairs(x, mother, father);
            }
        }
    }

    private static void allPairs(BedBook x, int[] mother, int[] father) {
        int[] some = {0, 1, 2, 5, 9};
        for (int i = 0; i < 25; i++) {
            int a = some[i / 5];
            int b = some[i % 5];
            // the rows that were not told are 0, 0 in all three, and fit
            boolean want = (has(mother, a) && has(father, b)) || (has(mother, b) && has(father, a));
            x.mark(2, 0, a, b);
            Due.is(a + ", " + b + " of " + mother[0] + ", " + mother[1] + " and " + father[0] + ", " + father[1], x.fits(2), want ? 1 : 0);
        }
    }

    private static void motherAlone() {
        Due.about(Doc.TERMS, "without a father told: one of the two is one of the mother's.");
        BedBook x = new BedBook();
        x.wild(1, 1);
        x.seed(0, NONE, 1);
        x.mark(0, 0, 0, 9);
        int[][] right = {{0, 0}, {9, 9}, {0, 9}, {0, 5}, {5, 9}};
        for (int[] two : right) {
            x.mark(1, 0, two[0], two[1]);
            Due.is(two[0] + ", " + two[1], x.fits(1), 1);
        }
        int[][] wrong = {{1, 8}, {5, 5}, {1, 1}, {8, 8}};
        for (int[] two : wrong) {
            x.mark(1, 0, two[0], two[1]);
            Due.is(two[0] + ", " + two[1], x.fits(1), 0);
        }
    }

    private static void eachRow() {
        Due.about(Doc.TERMS, "in each row");
        for (int row = 0; row < 4; row++) {
            BedBook x = new BedBook();
            x.wild(1, 9);
            int[] all = {x.seed(0, 0, 1), x.seed(0, NONE, 1), x.cut(0, 1), x.split(0, 1)};
            for (int plant : all) {
                Due.is("all rows are right", x.fits(plant), 1);
                x.mark(plant, row, 7, 7);
                Due.is("row " + row + " alone is wrong", x.fits(plant), 0);
                x.mark(0, row, 7, 7);
                Due.is("row " + row + " is right again", x.fits(plant), 1);
                x.mark(0, row, 0, 0);
            }
        }
    }

    private static void rowsApart() {
        Due.about(Doc.TERMS, "in each row one of the two numbers is one of the mother's");
        BedBook x = new BedBook();
        x.wild(1, 9);
        int[] all = {x.seed(0, 0, 1), x.seed(0, NONE, 1), x.cut(0, 1), x.split(0, 1)};
        for (int row = 0; row < 4; row++) {
            x.mark(0, row, 2 * row, 2 * row + 1);
        }
        for (int plant : all) {
            for (int row = 0; row < 4; row++) {
                x.mark(plant, row, 2 * row + 1, 2 * row);
            }
            Due.is("the same in all rows", x.fits(plant), 1);
            for (int row = 0; row < 4; row++) {
                for (int other = 0; other < 4; other++) {
                    x.mark(plant, row, 2 * other, 2 * other + 1);
                    Due.is("those of row " + other + " in row " + row, x.fits(plant), row == other ? 1 : 0);
                }
                x.mark(plant, row, 2 * row, 2 * row + 1);
            }
        }
    }

    private static void ofOne() {
        Due.about(Doc.TERMS, "Of a CUTTING, a SPLIT: they are those of what it is of.");
        BedBook x = new BedBook();
        x.wild(1, 9);
        x.mark(0, 1, 9, 0);
        int[] all = {x.cut(0, 1), x.split(0, 1)};
        for (int plant : all) {
            Due.is("at first", x.fits(plant), 1);
            x.mark(plant, 1, 0, 0);
            Due.is("the lesser one twice", x.fits(plant), 0);
            x.mark(plant, 1, 9, 9);
            Due.is("the greater one twice", x.fits(plant), 0);
            x.mark(plant, 1, 0, 8);
            Due.is("another greater one", x.fits(plant), 0);
            x.mark(plant, 1, 1, 9);
            Due.is("another lesser one", x.fits(plant), 0);
            x.mark(plant, 1, 0, 9);
            Due.is("the same again", x.fits(plant), 1);
        }
        x.mark(0, 1, 4, 4);
        Due.is("those it has now, of a CUTTING", x.fits(1), 0);
        Due.is("those it has now, of a SPLIT", x.fits(2), 0);
    }

    private static void wildOnes() {
        Due.about(Doc.TERMS, "A WILD one's always FIT.");
        BedBook x = new BedBook();
        x.wild(0, 1);
        Due.is("at first", x.fits(0), 1);
        for (int row = 0; row < 4; row++) {
            x.mark(0, row, row, 9);
            Due.is("whatever they are", x.fits(0), 1);
        }
    }

    /** Two wild ones, 0 with 1, 1 and 1 with 2, 2 in row 0, and a child of each: 2 and 3. */
    private static BedBook twoChildren(int kindOf2, int kindOf3) {
        BedBook x = new BedBook();
        x.wild(1, 9);
        x.wild(1, 9);
        x.mark(0, 0, 1, 1);
        x.mark(1, 0, 2, 2);
        child(x, kindOf2, 0);
        child(x, kindOf3, 1);
        return x;
    }

    private static void child(BedBook x, int kind, int of) {
        switch (kind) {
            case 0: x.wild(1, 1); break;
            case 1: x.seed(of, NONE, 1); break;
            case 2: x.cut(of, 1); break;
            case 3: x.split(of, 1); break;
            default: x.seed(of, of, 1); break;
        }
    }

    private static void changedOfTheTerms() {
        Due.about(Doc.TERMS, "Two PLANTS are CHANGED if each one's MARKS do not FIT what it is of, but FIT what the other one is of");
        for (int kind = 1; kind <= 4; kind++) {
            for (int other = 1; other <= 4; other++) {
                // marks of 2 and of 3: right ones, those of the other's, and those of neither
                for (int i = 0; i < 9; i++) {
                    BedBook x = twoChildren(kind, other);
                    int of2 = i / 3 == 0 ? 1 : i / 3 == 1 ? 2 : 5;
                    int of3 = i % 3 == 0 ? 2 : i % 3 == 1 ? 1 : 5;
                    x.mark(2, 0, of2, of2);
                    x.mark(3, 0, of3, of3);
                    Due.is("kinds " + kind + ", " + other + " with " + of2 + ", " + of3, x.changed(2, 3), i == 4 ? 1 : 0);
                    Due.is("the other way round", x.changed(3, 2), i == 4 ? 1 : 0);
                }
            }
        }
        BedBook same = twoChildren(2, 2);
        same.cut(0, 1);
        same.mark(2, 0, 2, 2);
        same.mark(4, 0, 2, 2);
        Due.is("both of one", same.changed(2, 4), 0);
        BedBook both = twoChildren(1, 1);
        both.mark(2, 0, 1, 2);
        both.mark(3, 0, 1, 2);
        Due.is("MARKS that FIT both", both.changed(2, 3), 0);
        BedBook row = twoChildren(1, 1);
        row.mark(2, 0, 2, 2);
        row.mark(3, 0, 1, 1);
        row.mark(3, 3, 4, 4);
        Due.is("another row does not FIT the other one", row.changed(2, 3), 0);
    }

    private static void changedAsThatIs() {
        Due.about(Doc.TERMS, "(as SEED, CUTTING, SPLIT, as that is; a WILD other one: always).");
        int[] ofOne = {2, 3};
        for (int kind : ofOne) {
            BedBook x = twoChildren(1, kind);
            x.mark(2, 0, 2, 5);
            x.mark(3, 0, 1, 5);
            Due.is("one of two is not enough for kind " + kind, x.changed(2, 3), 0);
            x.mark(2, 0, 2, 2);
            Due.is("one of two is enough for a SEED", x.changed(2, 3), 1);
            Due.is("the other way round", x.changed(3, 2), 1);
        }
        BedBook two = twoChildren(4, 1);
        two.mark(2, 0, 2, 5);
        two.mark(3, 0, 1, 5);
        Due.is("one of two is not enough with a father", two.changed(2, 3), 0);
        two.mark(3, 0, 1, 1);
        Due.is("both of them are", two.changed(2, 3), 1);
        for (int kind = 1; kind <= 4; kind++) {
            BedBook x = twoChildren(kind, 0);
            x.mark(2, 0, 5, 5);
            Due.is("a WILD one FITS always", x.changed(2, 3), 0);
            Due.is("the other way round", x.changed(3, 2), 0);
            Due.is("with its own WILD one", x.changed(2, 0), 0);
        }
        Due.is("two WILD ones", twoChildren(0, 0).changed(0, 1), 0);
    }

    private static void fits() {
        Due.about(23, "Whether a PLANT's MARKS FIT what it is of: 1 or 0;");
        for (int kind = 0; kind <= 4; kind++) {
            BedBook x = twoChildren(kind, kind);
            x.mark(2, 0, 1, 1);
            Due.is("right ones, kind " + kind, x.fits(2), 1);
            x.mark(2, 0, 3, 3);
            Due.is("wrong ones, kind " + kind, x.fits(2), kind == 0 ? 1 : 0);
        }
    }

    private static void fitsNoneSuch() {
        Due.about(23, "NONE: none such.");
        Due.is("without a PLANT", new BedBook().fits(0), NONE);
        BedBook x = twoChildren(1, 1);
        int[] none = {MIN, -1, 4, 39, 40, MAX};
        for (int plant : none) {
            Due.is("fits(" + plant + ")", x.fits(plant), NONE);
        }
    }

    private static void changed() {
        Due.about(24, "Whether two PLANTS are CHANGED: 1 or 0;");
        BedBook x = twoChildren(2, 3);
        Due.is("at first", x.changed(2, 3), 0);
        x.mark(2, 0, 2, 2);
        x.mark(3, 0, 1, 1);
        Due.is("CHANGED", x.changed(2, 3), 1);
        x.mark(0, 0, 2, 2);
        Due.is("what one is of has others now", x.changed(2, 3), 0);
    }

    private static void changedNoSuchTwo() {
        Due.about(24, "NONE: no such two.");
        BedBook x = twoChildren(1, 1);
        int[] none = {MIN, -1, 4, 39, 40, MAX};
        for (int plant : none) {
            Due.is("changed(" + plant + ", 2)", x.changed(plant, 2), NONE);
            Due.is("changed(2, " + plant + ")", x.changed(2, plant), NONE);
            Due.is("changed(" + plant + ", " + plant + ")", x.changed(plant, plant), NONE);
        }
        for (int plant = 0; plant < 4; plant++) {
            Due.is("one is no two: " + plant, x.changed(plant, plant), NONE);
        }
        Due.is("the first and the last", x.changed(0, 3), 0);
    }
}
