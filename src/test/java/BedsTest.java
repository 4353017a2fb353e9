/** Promises 11 to 15: beds, needs, lying in beds and the fewest plants moved. */
public final class BedsTest {
    public static void main(String[] args) {
        promise11Bed();
        promise12Change();
        promise13Needs();
        promise14Lay();
        promise15Moves();
        promise15MovesByAChain();
        promise15MovesThatCannotBe();
        Due.end();
    }

    private static void promise11Bed() {
        BedBook x = new BedBook();
        Due.is("bed(-1, 0, 1)", x.bed(-1, 0, 1), -1);
        Due.is("bed(10, 0, 1)", x.bed(10, 0, 1), -1);
        Due.is("bed(0, -1, 1)", x.bed(0, -1, 1), -1);
        Due.is("bed(0, 10, 1)", x.bed(0, 10, 1), -1);
        Due.is("bed(0, 0, 0)", x.bed(0, 0, 0), -1);
        Due.is("bed(0, 0, 41)", x.bed(0, 0, 41), -1);
        Due.is("bed(0, 9, 40)", x.bed(0, 9, 40), 0);
        for (int i = 1; i < 8; i++) {
            Due.is("bed, the " + i + "-th", x.bed(9, 0, 1), i);
        }
        Due.is("bed, the 9th", x.bed(1, 1, 1), -1);
        Due.is("BEDS", x.count(2), 8);
        for (int i = 0; i < 40; i++) {
            x.wild(1, 1);
            Due.yes("lay, the " + i + "-th", x.lay(i, 0));
        }
        Due.is("all lie in one", x.count(9), 40);
    }

    private static void promise12Change() {
        BedBook x = new BedBook();
        x.bed(5, 5, 2);
        x.wild(1, 1);
        x.needs(0, 5, 5, 5, 5);
        x.lay(0, 0);
        Due.no("change(1, 1, 1)", x.change(1, 1, 1));
        Due.no("change(-1, 1, 1)", x.change(-1, 1, 1));
        Due.no("change(0, 10, 1)", x.change(0, 10, 1));
        Due.no("change(0, -1, 1)", x.change(0, -1, 1));
        Due.no("change(0, 1, 10)", x.change(0, 1, 10));
        Due.no("change(0, 1, -1)", x.change(0, 1, -1));
        Due.is("moves() after refusals", x.moves(), 0);
        Due.yes("change(0, 5, 9)", x.change(0, 5, 9));
        Due.is("the PLANT stays", x.look(0, 7), 0);
        Due.is("moves() with another wet", x.moves(), -1);
        Due.no("lay(0, 0) where it lies and doesn't SUIT", x.lay(0, 0));
        Due.is("the PLANT still stays", x.look(0, 7), 0);
        x.change(0, 0, 5);
        Due.is("moves() with another light", x.moves(), -1);
        x.change(0, 5, 5);
        Due.is("moves() as it was", x.moves(), 0);
    }

    private static void promise13Needs() {
        BedBook x = new BedBook();
        x.bed(3, 6, 9);
        x.wild(1, 1);
        Due.no("needs(1, ..)", x.needs(1, 0, 9, 0, 9));
        Due.no("needs(-1, ..)", x.needs(-1, 0, 9, 0, 9));
        Due.no("light -1 ..", x.needs(0, -1, 9, 0, 9));
        Due.no("light .. 10", x.needs(0, 0, 10, 0, 9));
        Due.no("wet -1 ..", x.needs(0, 0, 9, -1, 9));
        Due.no("wet .. 10", x.needs(0, 0, 9, 0, 10));
        Due.no("light from above to", x.needs(0, 4, 3, 0, 9));
        Due.no("wet from above to", x.needs(0, 0, 9, 7, 6));
        Due.yes("at first all suit", x.lay(0, 0));
        int[][] suiting = {{3, 3, 6, 6}, {0, 3, 0, 6}, {3, 9, 6, 9}};
        for (int[] n : suiting) {
            Due.yes("needs", x.needs(0, n[0], n[1], n[2], n[3]));
            Due.yes("it SUITS", x.lay(0, 0));
        }
        int[][] others = {{4, 9, 0, 9}, {0, 2, 0, 9}, {0, 9, 7, 9}, {0, 9, 0, 5}};
        for (int[] n : others) {
            Due.yes("needs", x.needs(0, n[0], n[1], n[2], n[3]));
            Due.no("it does not SUIT", x.lay(0, 0));
        }
        Due.yes("a child needs nothing of it", x.lay(x.cut(0, 1), 0));
    }

    private static void promise14Lay() {
        BedBook x = new BedBook();
        x.wild(1, 1);
        x.wild(1, 1);
        x.wild(1, 1);
        x.bed(1, 1, 2);
        x.bed(2, 2, 1);
        Due.no("lay(3, 0)", x.lay(3, 0));
        Due.no("lay(3, NONE)", x.lay(3, -1));
        Due.no("lay(-1, 0)", x.lay(-1, 0));
        Due.no("lay(0, 2)", x.lay(0, 2));
        Due.no("lay(0, -2)", x.lay(0, -2));
        Due.yes("lay(0, NONE) of one that lies nowhere", x.lay(0, -1));
        Due.yes("lay(0, 0)", x.lay(0, 0));
        Due.yes("lay(1, 0)", x.lay(1, 0));
        Due.no("lay(2, 0), full", x.lay(2, 0));
        Due.yes("lay(0, 0) in its own full one", x.lay(0, 0));
        Due.yes("lay(0, 1) from another one", x.lay(0, 1));
        Due.is("its BED", x.look(0, 7), 1);
        Due.yes("lay(2, 0), room again", x.lay(2, 0));
        Due.no("lay(1, 1), full", x.lay(1, 1));
        Due.is("it stays when refused", x.look(1, 7), 0);
        Due.yes("lay(0, NONE)", x.lay(0, -1));
        Due.is("its BED", x.look(0, 7), -1);
        Due.yes("lay(1, 1), room again", x.lay(1, 1));
    }

    private static void promise15Moves() {
        BedBook x = new BedBook();
        x.wild(1, 1);
        x.wild(1, 1);
        x.bed(1, 1, 1);
        x.bed(2, 2, 1);
        x.lay(0, 0);
        x.lay(1, 1);
        Due.is("moves(), all suit", x.moves(), 0);
        x.needs(0, 2, 2, 0, 9);
        Due.is("moves(), two change places", x.moves(), 2);
        x.needs(1, 2, 2, 0, 9);
        Due.is("moves(), both need the same", x.moves(), -1);
        x.bed(2, 5, 1);
        Due.is("moves() into an empty one", x.moves(), 1);
        Due.is("nothing was moved", x.look(0, 7), 0);
        x.lay(0, -1);
        Due.is("moves() without it", x.moves(), 0);
        x.close(1);
        x.close(1);
        x.needs(1, 2, 2, 5, 5);
        Due.is("moves() of a DEAD one", x.moves(), 1);
    }

    private static void promise15MovesByAChain() {
        BedBook x = new BedBook();
        for (int i = 0; i < 8; i++) {
            x.wild(1, 1);
            x.bed(i, 0, 1);
        }
        for (int i = 0; i < 7; i++) {
            x.lay(i, i);
            x.needs(i, i, i + 1, 0, 9);
        }
        Due.is("moves() before", x.moves(), 0);
        x.needs(0, 1, 1, 0, 9);
        Due.is("moves() by a chain of all", x.moves(), 7);
        x.needs(3, 0, 9, 0, 9);
        Due.is("moves() by a shorter one", x.moves(), 4);
        x.lay(7, 7);
        Due.is("moves() round, back to the first", x.moves(), 4);
        x.needs(3, 3, 4, 0, 9);
        Due.is("moves() when no one goes to the first but by 7", x.moves(), 8);
        x.needs(7, 7, 7, 0, 9);
        Due.is("moves() when 7 must stay", x.moves(), -1);
    }

    private static void promise15MovesThatCannotBe() {
        BedBook x = new BedBook();
        x.bed(0, 0, 2);
        x.bed(5, 5, 2);
        for (int i = 0; i < 4; i++) {
            x.wild(1, 1);
            x.lay(i, i / 2);
        }
        x.needs(0, 5, 5, 5, 5);
        x.needs(1, 5, 5, 5, 5);
        Due.is("moves(), all four change places", x.moves(), 4);
        x.needs(2, 5, 5, 5, 5);
        Due.is("moves(), three for two", x.moves(), -1);
        x.lay(2, -1);
        Due.is("moves(), three lie", x.moves(), 3);
        x.change(0, 5, 5);
        Due.is("moves(), all suit all", x.moves(), 0);
    }
}
