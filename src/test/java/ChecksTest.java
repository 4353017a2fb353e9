/** Promises 21 to 24: checks of beds, marks that fit, and changed labels. */
public final class ChecksTest {
    public static void main(String[] args) {
        promise21Seen();
        promise22Close();
        promise23Fits();
        promise24Changed();
        promise24ChangedOfMixedKinds();
        Due.end();
    }

    private static BedBook twoBeds() {
        BedBook x = new BedBook();
        for (int i = 0; i < 4; i++) {
            x.wild(1, 10);
        }
        x.bed(1, 1, 4);
        x.bed(2, 2, 4);
        return x;
    }

    private static void promise21Seen() {
        BedBook x = twoBeds();
        Due.no("seen(0, 1) of one that lies in none", x.seen(0, 1));
        x.lay(0, 0);
        Due.no("seen(4, 1)", x.seen(4, 1));
        Due.no("seen(-1, 1)", x.seen(-1, 1));
        Due.no("seen(0, 0)", x.seen(0, 0));
        Due.no("seen(0, 101)", x.seen(0, 101));
        Due.no("seen(0, -1)", x.seen(0, -1));
        Due.is("refused ones do not count", x.close(0), 0);
        Due.is("missed", x.look(0, 8), 1);
        Due.yes("seen(0, 100)", x.seen(0, 100));
        Due.is("pieces before the end of the check", x.look(0, 3), 10);
        Due.yes("seen(0, 1)", x.seen(0, 1));
        x.close(0);
        Due.is("the pieces told last", x.look(0, 3), 1);
        Due.is("missed 0", x.look(0, 8), 0);
        x.seen(0, 5);
        Due.yes("lay(0, 1)", x.lay(0, 1));
        x.close(1);
        Due.is("lay() takes seen back", x.look(0, 8), 1);
        x.seen(0, 5);
        Due.no("lay(0, 2)", x.lay(0, 2));
        x.close(1);
        Due.is("a refused lay() takes nothing back", x.look(0, 8), 0);
        x.seen(0, 6);
        x.lay(0, -1);
        x.lay(0, 1);
        x.close(1);
        Due.is("lay() in none takes it back, too", x.look(0, 8), 1);
        x.seen(0, 7);
        x.lay(0, 1);
        x.close(1);
        Due.is("lay() in its own one takes it back, too", x.look(0, 8), 2);
        Due.is("the pieces stay", x.look(0, 3), 5);
    }

    private static void promise22Close() {
        BedBook x = twoBeds();
        Due.is("close(2)", x.close(2), -1);
        Due.is("close(-1)", x.close(-1), -1);
        Due.is("close(0) of an empty one", x.close(0), 0);
        x.lay(0, 0);
        x.lay(1, 0);
        x.lay(2, 1);
        Due.is("close(0)", x.close(0), 0);
        Due.is("missed once", x.look(0, 8), 1);
        Due.is("not in that BED", x.look(2, 8), 0);
        Due.is("in no BED", x.look(3, 8), 0);
        x.seen(1, 20);
        x.seen(2, 30);
        Due.is("close(0), one is missed again", x.close(0), 1);
        Due.is("DEAD", x.look(0, 9), 1);
        Due.is("the DEAD keep their pieces", x.look(0, 3), 10);
        Due.is("seen", x.look(1, 8), 0);
        Due.is("its pieces", x.look(1, 3), 20);
        Due.is("another BED's check is open", x.look(2, 3), 10);
        Due.is("close(1)", x.close(1), 0);
        Due.is("told before", x.look(2, 3), 30);
        Due.is("close(0), DEAD already", x.close(0), 0);
        Due.is("missed three times", x.look(0, 8), 3);
        Due.is("seen counts for one check", x.look(1, 8), 1);
        Due.is("DEAD ones", x.count(6), 1);
        x.seen(0, 2);
        Due.is("DEAD until the check is closed", x.look(0, 9), 1);
        Due.is("close(0), one lives and one dies", x.close(0), 1);
        Due.is("lives again", x.look(0, 9), 0);
        Due.is("missed 0", x.look(0, 8), 0);
        Due.is("its pieces", x.look(0, 3), 2);
        Due.is("DEAD ones", x.count(6), 1);
        x.lay(1, 1);
        Due.is("still DEAD elsewhere", x.look(1, 9), 1);
        Due.is("missed stays elsewhere", x.look(1, 8), 2);
        x.lay(1, -1);
        x.close(0);
        x.close(1);
        Due.is("no check of what lies in none", x.look(1, 8), 2);
    }

    private static void fit(BedBook x, int plant, int a, int b, int want) {
        x.mark(plant, 2, a, b);
        Due.is("fits(" + plant + ") with " + a + ", " + b, x.fits(plant), want);
    }

    private static void promise23Fits() {
        BedBook x = new BedBook();
        x.wild(1, 10);
        x.wild(1, 10);
        x.mark(0, 2, 1, 2);
        x.mark(1, 2, 3, 4);
        Due.is("fits(2)", x.fits(2), -1);
        Due.is("fits(-1)", x.fits(-1), -1);
        Due.is("a WILD one", x.fits(0), 1);
        x.seed(0, 1, 1);
        fit(x, 2, 1, 3, 1);
        fit(x, 2, 4, 1, 1);
        fit(x, 2, 2, 3, 1);
        fit(x, 2, 2, 4, 1);
        fit(x, 2, 1, 2, 0);
        fit(x, 2, 3, 4, 0);
        fit(x, 2, 1, 5, 0);
        fit(x, 2, 5, 3, 0);
        fit(x, 2, 1, 1, 0);
        x.seed(1, -1, 1);
        fit(x, 3, 3, 9, 1);
        fit(x, 3, 0, 4, 1);
        fit(x, 3, 3, 4, 1);
        fit(x, 3, 1, 2, 0);
        x.seed(0, 0, 1);
        fit(x, 4, 1, 2, 1);
        fit(x, 4, 1, 1, 1);
        fit(x, 4, 1, 3, 0);
        x.cut(0, 1);
        Due.is("a CUTTING at first", x.fits(5), 1);
        fit(x, 5, 1, 1, 0);
        fit(x, 5, 1, 3, 0);
        fit(x, 5, 2, 1, 1);
        x.split(0, 1);
        Due.is("a SPLIT at first", x.fits(6), 1);
        fit(x, 6, 2, 2, 0);
        x.mark(0, 2, 2, 2);
        Due.is("MARKS of what it is of as they are now", x.fits(6), 1);
        Due.is("and of the CUTTING", x.fits(5), 0);
        for (int row = 0; row < 4; row++) {
            x.mark(6, row, 8, 8);
            Due.is("a SPLIT wrong in row " + row, x.fits(6), 0);
            x.mark(6, row, row == 2 ? 2 : 0, row == 2 ? 2 : 0);
            x.mark(3, 2, 3, 3);
            x.mark(3, row, 8, 8);
            Due.is("a SEED wrong in row " + row, x.fits(3), 0);
            x.mark(3, row, 0, 0);
        }
    }

    private static void promise24Changed() {
        BedBook x = new BedBook();
        x.wild(1, 10);
        x.wild(2, 10);
        x.mark(0, 1, 1, 1);
        x.mark(1, 1, 2, 2);
        x.cut(0, 1);
        x.cut(1, 1);
        Due.is("changed(2, 3), both are right", x.changed(2, 3), 0);
        x.mark(2, 1, 2, 2);
        Due.is("changed(2, 3), one is right", x.changed(2, 3), 0);
        x.mark(3, 1, 1, 1);
        Due.is("changed(2, 3)", x.changed(2, 3), 1);
        Due.is("changed(3, 2)", x.changed(3, 2), 1);
        x.mark(3, 0, 1, 1);
        Due.is("changed(2, 3), one fits neither", x.changed(2, 3), 0);
        x.mark(3, 0, 0, 0);
        Due.is("changed(2, 0), a WILD one is never wrong", x.changed(2, 0), 0);
        Due.is("changed(0, 2)", x.changed(0, 2), 0);
        Due.is("changed(2, 2)", x.changed(2, 2), -1);
        Due.is("changed(2, 4)", x.changed(2, 4), -1);
        Due.is("changed(4, 2)", x.changed(4, 2), -1);
        Due.is("changed(-1, 2)", x.changed(-1, 2), -1);
        Due.is("changed(2, -1)", x.changed(2, -1), -1);
        Due.is("changed(9, 9)", x.changed(9, 9), -1);
        x.cut(0, 1);
        x.mark(4, 1, 2, 2);
        Due.is("changed(2, 4), both of the same", x.changed(2, 4), 0);
    }

    private static void promise24ChangedOfMixedKinds() {
        BedBook x = new BedBook();
        x.wild(1, 10);
        x.wild(2, 10);
        x.mark(0, 1, 1, 4);
        x.mark(1, 1, 2, 3);
        x.seed(0, 1, 1);
        x.split(1, 1);
        x.mark(2, 1, 2, 3);
        x.mark(3, 1, 4, 3);
        Due.is("a SEED and a SPLIT", x.changed(2, 3), 1);
        Due.is("a SPLIT and a SEED", x.changed(3, 2), 1);
        x.mark(2, 1, 2, 9);
        Due.is("a SPLIT's are the same, not one alone", x.changed(2, 3), 0);
        x.mark(2, 1, 2, 3);
        x.mark(3, 1, 1, 4);
        Due.is("a SEED's are of both", x.changed(2, 3), 0);
        x.seed(0, -1, 1);
        x.mark(4, 1, 2, 3);
        Due.is("a SEED of a mother alone and a SPLIT", x.changed(4, 3), 1);
        x.mark(3, 1, 4, 9);
        Due.is("one of the two is enough", x.changed(4, 3), 1);
    }
}
