/** The edges of Terms 5 that tell of checks, and of promises 21 and 22: seen, missed, dead and living again. */
final class CheckEdges {
    private static final int MIN = Integer.MIN_VALUE;
    private static final int MAX = Integer.MAX_VALUE;
    private static final int NONE = BedBook.NONE;

    private CheckEdges() {
    }

    static void run() {
        ofABed();
        missedInARow();
        seenOnes();
        seen();
        layTakesBack();
        seenRefused();
        close();
        closeNoSuchBed();
    }

    private static BedBook lying(int plants) {
        BedBook x = new BedBook();
        x.bed(1, 1, 40);
        x.bed(2, 2, 40);
        for (int i = 0; i < plants; i++) {
            x.wild(1, 10);
            x.lay(i, 0);
        }
        return x;
    }

    private static void state(BedBook x, int plant, int pieces, int missed, int dead) {
        Due.is("pieces of " + plant, x.look(plant, 3), pieces);
        Due.is("missed in a row of " + plant, x.look(plant, 8), missed);
        Due.is("DEAD of " + plant, x.look(plant, 9), dead);
    }

    private static void ofABed() {
        Due.about(Doc.TERMS, "CHECKS. Of a BED: PLANTS that lie there are told seen, with pieces, then the BED's check is closed:");
        BedBook x = lying(4);
        x.lay(1, 1);
        x.lay(2, NONE);
        x.seen(0, 1);
        x.seen(1, 100);
        state(x, 0, 10, 0, 0);
        x.close(0);
        state(x, 0, 1, 0, 0);
        state(x, 1, 10, 0, 0);
        state(x, 2, 10, 0, 0);
        state(x, 3, 10, 1, 0);
        x.close(1);
        state(x, 1, 100, 0, 0);
        state(x, 3, 10, 1, 0);
        x.close(0);
        state(x, 0, 1, 1, 0);
        x.close(1);
        state(x, 1, 100, 1, 0);
        state(x, 2, 10, 0, 0);
    }

    private static void missedInARow() {
        Due.about(Doc.TERMS, "those not told were missed once more in a row; at 2 or more they are DEAD;");
        BedBook x = lying(1);
        for (int missed = 1; missed <= 9; missed++) {
            x.close(0);
            state(x, 0, 10, missed, missed >= 2 ? 1 : 0);
            Due.is("DEAD ones", x.count(6), missed >= 2 ? 1 : 0);
        }
        BedBook y = lying(1);
        for (int i = 0; i < 3; i++) {
            y.close(0);
            state(y, 0, 10, 1, 0);
            y.seen(0, 10);
            y.close(0);
            state(y, 0, 10, 0, 0);
        }
        BedBook z = lying(1);
        z.close(0);
        z.lay(0, 1);
        state(z, 0, 10, 1, 0);
        z.close(0);
        state(z, 0, 10, 1, 0);
        z.close(1);
        state(z, 0, 10, 2, 1);
    }

    private static void seenOnes() {
        Due.about(Doc.TERMS, "those seen were missed 0, are not DEAD, and have the pieces that were told.");
        BedBook x = lying(1);
        x.close(0);
        x.close(0);
        x.close(0);
        x.seen(0, 1);
        state(x, 0, 10, 3, 1);
        x.close(0);
        state(x, 0, 1, 0, 0);
        Due.is("DEAD ones", x.count(6), 0);
        x.close(0);
        state(x, 0, 1, 1, 0);
        Due.read(x, "let when 1;");
        x.send(0, 1, 1);
        state(x, 0, 0, 1, 0);
        x.seen(0, 100);
        x.close(0);
        state(x, 0, 100, 0, 0);
        x.seen(0, 50);
        x.split(0, 99);
        x.close(0);
        state(x, 0, 50, 0, 0);
    }

    private static void seen() {
        Due.about(21, "A PLANT is told seen, with pieces (1 .. 100), in the check of the BED where it lies");
        BedBook x = lying(2);
        Due.yes("seen(0, 1)", x.seen(0, 1));
        Due.yes("seen(1, 100)", x.seen(1, 100));
        x.close(1);
        state(x, 0, 10, 0, 0);
        x.close(0);
        state(x, 0, 1, 0, 0);
        state(x, 1, 100, 0, 0);
        Due.yes("seen(0, 7)", x.seen(0, 7));
        Due.yes("seen(0, 8) once more", x.seen(0, 8));
        x.close(0);
        state(x, 0, 8, 0, 0);
        state(x, 1, 100, 1, 0);
        x.close(0);
        state(x, 0, 8, 1, 0);
    }

    private static void layTakesBack() {
        Due.about(21, "(lay() takes that back): true;");
        int[] to = {0, 1, NONE};
        for (int bed : to) {
            BedBook x = lying(1);
            x.seen(0, 50);
            Due.yes("lay(0, " + bed + ")", x.lay(0, bed));
            x.close(0);
            x.close(1);
            state(x, 0, 10, bed == NONE ? 0 : 1, 0);
        }
        BedBook back = lying(1);
        back.seen(0, 50);
        back.lay(0, 1);
        back.lay(0, 0);
        back.close(0);
        state(back, 0, 10, 1, 0);
        BedBook again = lying(1);
        again.seen(0, 50);
        again.lay(0, 1);
        again.seen(0, 60);
        again.close(1);
        state(again, 0, 60, 0, 0);
        BedBook other = lying(2);
        other.seen(0, 50);
        other.lay(1, 1);
        other.close(0);
        state(other, 0, 50, 0, 0);
        BedBook refused = lying(1);
        refused.seen(0, 50);
        Due.no("lay(0, 2)", refused.lay(0, 2));
        refused.close(0);
        state(refused, 0, 50, 0, 0);
    }

    private static void seenRefused() {
        Due.about(21, "false: none such, it lies in none.");
        BedBook x = lying(2);
        int[] none = {MIN, -1, 2, 40, MAX};
        for (int plant : none) {
            Due.no("seen(" + plant + ", 1)", x.seen(plant, 1));
        }
        int[] wrong = {MIN, -1, 0, 101, MAX};
        for (int pieces : wrong) {
            Due.no("seen(0, " + pieces + ")", x.seen(0, pieces));
        }
        x.lay(1, NONE);
        Due.no("it lies in none", x.seen(1, 1));
        x.lay(1, 0);
        x.close(0);
        state(x, 0, 10, 1, 0);
        state(x, 1, 10, 1, 0);
        x.seen(0, 5);
        Due.no("seen(0, 0) behind a right one", x.seen(0, 0));
        Due.no("seen(0, 101) behind a right one", x.seen(0, 101));
        x.close(0);
        state(x, 0, 5, 0, 0);
    }

    private static void close() {
        Due.about(22, "The check of a BED is closed: how many became DEAD by it;");
        BedBook x = lying(40);
        Due.is("of an empty BED", x.close(1), 0);
        Due.is("all are missed once", x.close(0), 0);
        x.seen(0, 1);
        Due.is("all but one die", x.close(0), 39);
        Due.is("DEAD ones", x.count(6), 39);
        Due.is("those DEAD already do not count", x.close(0), 0);
        Due.is("the one dies, too", x.close(0), 1);
        Due.is("DEAD ones", x.count(6), 40);
        x.seen(3, 1);
        Due.is("one lives again", x.close(0), 0);
        Due.is("DEAD ones", x.count(6), 39);
        Due.is("missed once", x.close(0), 0);
        Due.is("it dies again", x.close(0), 1);
        Due.is("DEAD ones", x.count(6), 40);
        BedBook y = lying(3);
        y.close(0);
        y.close(0);
        y.seen(0, 1);
        y.seen(1, 1);
        Due.is("two live again, one is DEAD already", y.close(0), 0);
        y.close(0);
        y.seen(0, 1);
        Due.is("one of the two dies", y.close(0), 1);
        y.lay(2, 1);
        Due.is("DEAD already, in another BED", y.close(1), 0);
    }

    private static void closeNoSuchBed() {
        Due.about(22, "NONE: no such BED.");
        BedBook x = lying(1);
        x.wild(1, 10);
        int[] none = {MIN, -2, -1, 2, 7, 8, MAX};
        for (int bed : none) {
            Due.is("close(" + bed + ")", x.close(bed), NONE);
        }
        state(x, 0, 10, 0, 0);
        state(x, 1, 10, 0, 0);
    }
}
