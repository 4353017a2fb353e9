/** Promises 1 to 7, 25 and 26: a new object, days, plants and where they come from, marks, looking and counting. */
public final class PlantsTest {
    public static void main(String[] args) {
        promise1NewObject();
        promise2Days();
        promise3Wild();
        promise4Seed();
        promise5Cut();
        promise6Split();
        promise7Mark();
        fortyPlantsAtMost();
        promise25Look();
        promise26Count();
        Due.end();
    }

    private static void promise1NewObject() {
        BedBook x = new BedBook();
        Due.is("NONE", BedBook.NONE, -1);
        for (int what = 0; what <= 9; what++) {
            Due.is("count(" + what + ") of a new one", x.count(what), 0);
        }
        Due.noSuch("look(0, 0) of a new one", () -> x.look(0, 0));
        Due.is("moves() of a new one", x.moves(), 0);
        Due.is("close(0) of a new one", x.close(0), -1);
        x.wild(1, 1);
        x.days(3);
        BedBook other = new BedBook();
        Due.is("two objects share no plant", other.count(0), 0);
        Due.is("two objects share no day", other.count(1), 0);
    }

    private static void promise2Days() {
        BedBook x = new BedBook();
        Due.is("days(0)", x.days(0), 0);
        Due.is("days(1)", x.days(1), 1);
        Due.is("days(-1)", x.days(-1), -1);
        Due.is("days(1001)", x.days(1001), -1);
        Due.is("days(MIN)", x.days(Integer.MIN_VALUE), -1);
        Due.is("days(MAX)", x.days(Integer.MAX_VALUE), -1);
        Due.is("NOW after refusals", x.count(1), 1);
        for (int i = 1; i <= 9; i++) {
            Due.is("days(1000)", x.days(1000), 1000 * i + 1);
        }
        Due.is("days(999) beyond the last", x.days(999), -1);
        Due.is("days(998) to the last", x.days(998), 9999);
        Due.is("days(1) behind the last", x.days(1), -1);
        Due.is("days(0) on the last", x.days(0), 9999);
    }

    private static void promise3Wild() {
        BedBook x = new BedBook();
        Due.is("wild(0, 1)", x.wild(0, 1), 0);
        Due.is("wild(99, 100)", x.wild(99, 100), 1);
        Due.is("wild(-1, 1)", x.wild(-1, 1), -1);
        Due.is("wild(100, 1)", x.wild(100, 1), -1);
        Due.is("wild(1, 0)", x.wild(1, 0), -1);
        Due.is("wild(1, 101)", x.wild(1, 101), -1);
        Due.is("wild(1, -1)", x.wild(1, -1), -1);
        Due.is("PLANTS", x.count(0), 2);
        Due.is("pieces", x.look(1, 3), 100);
        Due.is("place", x.look(1, 4), 99);
        Due.is("ROOT", x.look(1, 5), 1);
        Due.is("CUT", x.look(1, 6), 0);
    }

    private static void promise4Seed() {
        BedBook x = new BedBook();
        x.wild(7, 1);
        x.wild(8, 1);
        Due.is("seed(0, 1, 100)", x.seed(0, 1, 100), 2);
        Due.is("seed(1, NONE, 1)", x.seed(1, -1, 1), 3);
        Due.is("seed(2, 2, 1) of itself alone", x.seed(2, 2, 1), 4);
        Due.is("seed(5, 0, 1)", x.seed(5, 0, 1), -1);
        Due.is("seed(NONE, 0, 1)", x.seed(-1, 0, 1), -1);
        Due.is("seed(0, 5, 1)", x.seed(0, 5, 1), -1);
        Due.is("seed(0, -2, 1)", x.seed(0, -2, 1), -1);
        Due.is("seed(0, 1, 0)", x.seed(0, 1, 0), -1);
        Due.is("seed(0, 1, 101)", x.seed(0, 1, 101), -1);
        Due.is("kind", x.look(2, 0), 1);
        Due.is("mother", x.look(2, 1), 0);
        Due.is("father", x.look(2, 2), 1);
        Due.is("no father", x.look(3, 2), -1);
        Due.is("place by mothers", x.look(2, 4), 7);
        Due.is("place by mothers of mothers", x.look(4, 4), 7);
        Due.is("ROOT by mothers of mothers", x.look(4, 5), 0);
        Due.is("a mother keeps her pieces", x.look(0, 3), 1);
        x.mark(0, 0, 4, 5);
        int late = x.seed(0, -1, 1);
        Due.is("a SEED takes no MARKS", x.look(late, 11), 0);
    }

    private static void promise5Cut() {
        BedBook x = new BedBook();
        x.wild(7, 1);
        x.mark(0, 3, 9, 2);
        Due.is("cut(0, 100)", x.cut(0, 100), 1);
        Due.is("cut(2, 1)", x.cut(2, 1), -1);
        Due.is("cut(-1, 1)", x.cut(-1, 1), -1);
        Due.is("cut(0, 0)", x.cut(0, 0), -1);
        Due.is("cut(0, 101)", x.cut(0, 101), -1);
        Due.is("kind", x.look(1, 0), 2);
        Due.is("of", x.look(1, 1), 0);
        Due.is("father", x.look(1, 2), -1);
        Due.is("pieces", x.look(1, 3), 100);
        Due.is("what it is of keeps its pieces", x.look(0, 3), 1);
        Due.is("MARKS then, lesser", x.look(1, 16), 2);
        Due.is("MARKS then, greater", x.look(1, 17), 9);
        x.mark(0, 3, 1, 1);
        Due.is("MARKS told later are not taken", x.look(1, 16), 2);
        x.mark(1, 0, 3, 3);
        Due.is("MARKS do not go back", x.look(0, 10), 0);
        Due.is("CUT", x.look(1, 6), 1);
        Due.is("CUTTING of a CUTTING", x.look(x.cut(1, 1), 6), 1);
        Due.is("SEED of a CUTTING is not CUT", x.look(x.seed(1, -1, 5), 6), 0);
        Due.is("SPLIT of that SEED is not CUT", x.look(x.split(3, 2), 6), 0);
        Due.is("CUTTING of that SPLIT", x.look(x.cut(4, 1), 6), 1);
    }

    private static void promise6Split() {
        BedBook x = new BedBook();
        x.wild(7, 10);
        x.mark(0, 0, 6, 2);
        Due.is("split(0, 0)", x.split(0, 0), -1);
        Due.is("split(0, -1)", x.split(0, -1), -1);
        Due.is("split(0, 10)", x.split(0, 10), -1);
        Due.is("split(0, MAX)", x.split(0, Integer.MAX_VALUE), -1);
        Due.is("split(1, 1)", x.split(1, 1), -1);
        Due.is("split(-1, 1)", x.split(-1, 1), -1);
        Due.is("split(0, 9)", x.split(0, 9), 1);
        Due.is("pieces left", x.look(0, 3), 1);
        Due.is("pieces gone over", x.look(1, 3), 9);
        Due.is("split(0, 1) of the last piece", x.split(0, 1), -1);
        Due.is("kind", x.look(1, 0), 3);
        Due.is("of", x.look(1, 1), 0);
        Due.is("MARKS", x.look(1, 10), 2);
        Due.is("MARKS", x.look(1, 11), 6);
        Due.is("place", x.look(1, 4), 7);
        Due.is("ROOT", x.look(1, 5), 0);
        Due.is("SPLIT of a WILD one is not CUT", x.look(1, 6), 0);
        x.cut(1, 5);
        Due.is("SPLIT of a CUTTING", x.look(x.split(2, 1), 6), 1);
    }

    private static void promise7Mark() {
        BedBook x = new BedBook();
        x.wild(1, 1);
        Due.yes("mark(0, 0, 9, 0)", x.mark(0, 0, 9, 0));
        Due.yes("mark(0, 3, 4, 4)", x.mark(0, 3, 4, 4));
        Due.no("mark(1, 0, 1, 1)", x.mark(1, 0, 1, 1));
        Due.no("mark(-1, 0, 1, 1)", x.mark(-1, 0, 1, 1));
        Due.no("mark(0, -1, 1, 1)", x.mark(0, -1, 1, 1));
        Due.no("mark(0, 4, 1, 1)", x.mark(0, 4, 1, 1));
        Due.no("mark(0, 0, -1, 1)", x.mark(0, 0, -1, 1));
        Due.no("mark(0, 0, 10, 1)", x.mark(0, 0, 10, 1));
        Due.no("mark(0, 0, 1, -1)", x.mark(0, 0, 1, -1));
        Due.no("mark(0, 0, 1, 10)", x.mark(0, 0, 1, 10));
        int[] due = {0, 9, 0, 0, 0, 0, 4, 4};
        for (int i = 0; i < 8; i++) {
            Due.is("look(0, " + (10 + i) + ")", x.look(0, 10 + i), due[i]);
        }
        Due.yes("mark(0, 0, 2, 7)", x.mark(0, 0, 2, 7));
        Due.is("the lesser one", x.look(0, 10), 2);
        Due.is("the greater one", x.look(0, 11), 7);
    }

    private static void fortyPlantsAtMost() {
        BedBook x = new BedBook();
        for (int i = 0; i < 40; i++) {
            Due.is("wild, the " + i + "-th", x.wild(1, 50), i);
        }
        Due.is("wild, the 41st", x.wild(1, 1), -1);
        Due.is("seed, the 41st", x.seed(0, 1, 1), -1);
        Due.is("cut, the 41st", x.cut(0, 1), -1);
        Due.is("split, the 41st", x.split(0, 1), -1);
        Due.is("a refused split takes no piece", x.look(0, 3), 50);
        Due.is("PLANTS", x.count(0), 40);
    }

    private static void promise25Look() {
        BedBook x = new BedBook();
        x.wild(5, 6);
        int[] due = {0, -1, -1, 6, 5, 0, 0, -1, 0, 0, 0, 0, 0, 0, 0, 0, 0, 0};
        for (int what = 0; what < 18; what++) {
            Due.is("look(0, " + what + ")", x.look(0, what), due[what]);
        }
        Due.noSuch("look(0, -1)", () -> x.look(0, -1));
        Due.noSuch("look(0, 18)", () -> x.look(0, 18));
        Due.noSuch("look(1, 0)", () -> x.look(1, 0));
        Due.noSuch("look(-1, 0)", () -> x.look(-1, 0));
        Due.noSuch("look(MAX, MAX)", () -> x.look(Integer.MAX_VALUE, Integer.MAX_VALUE));
        x.bed(1, 1, 1);
        x.bed(1, 1, 1);
        x.lay(0, 1);
        Due.is("its BED", x.look(0, 7), 1);
        for (int row = 0; row < 4; row++) {
            x.mark(0, row, row + 5, row + 1);
            Due.is("lesser mark of row " + row, x.look(0, 10 + 2 * row), row + 1);
            Due.is("greater mark of row " + row, x.look(0, 11 + 2 * row), row + 5);
        }
    }

    private static void promise26Count() {
        BedBook x = new BedBook();
        x.wild(1, 9);
        x.wild(1, 9);
        x.wild(1, 9);
        x.days(17);
        x.bed(1, 1, 5);
        x.bed(1, 1, 5);
        x.name(0, 1);
        x.join(1, 2);
        x.join(1, 0);
        x.join(2, 1);
        Due.is("text", Due.read(x, "let when 1; bar when 1; bar when 0;"), 0);
        x.send(0, 1, 1);
        x.send(1, 1, 1);
        x.lay(0, 0);
        x.lay(1, 0);
        x.lay(2, 1);
        x.close(0);
        x.close(0);
        Due.put(x, "12345 #");
        int[] due = {3, 17, 2, 1, 3, 2, 2, 3, 7, 3};
        for (int what = 0; what < 10; what++) {
            Due.is("count(" + what + ")", x.count(what), due[what]);
        }
        x.lay(2, -1);
        Due.is("count(9) when one was taken out", x.count(9), 2);
        Due.is("count(-1)", x.count(-1), -1);
        Due.is("count(10)", x.count(10), -1);
        Due.is("count(MIN)", x.count(Integer.MIN_VALUE), -1);
    }
}
