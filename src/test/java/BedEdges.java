/** The edges of Terms 3 and of promises 11 to 15: beds, needs, lying, and the fewest plants moved. */
final class BedEdges {
    private static final int MIN = Integer.MIN_VALUE;
    private static final int MAX = Integer.MAX_VALUE;
    private static final int NONE = BedBook.NONE;

    private BedEdges() {
    }

    static void run() {
        eightBeds();
        needsOfTheTerms();
        suits();
        movesOfNone();
        movesOfAFullBed();
        movesOfRoom();
        movesOfAll();
        movesByChains();
        movesByOneThatGoesAgain();
        movesOfOneThatMovesAnyway();
        movesOfOwnOnes();
        bed();
        change();
        needs();
        lay();
        layRefused();
        layInNone();
        moves();
    }

    private static BedBook plants(int n) {
        BedBook x = new BedBook();
        for (int i = 0; i < n; i++) {
            x.wild(1, 9);
        }
        return x;
    }

    private static void eightBeds() {
        Due.about(Doc.TERMS, "BEDS, 8 at most: light, wet (0 .. 9), and for how many PLANTS.");
        BedBook x = plants(3);
        for (int i = 0; i < 8; i++) {
            Due.is("the numbers go up from 0", x.bed(i % 2 * 9, 9 - i % 2 * 9, 1 + i % 2), i);
        }
        Due.is("the 9th", x.bed(1, 1, 1), NONE);
        Due.is("BEDS", x.count(2), 8);
        Due.no("lay(0, 8)", x.lay(0, 8));
        Due.is("close(8)", x.close(8), NONE);
        Due.yes("lay(0, 7)", x.lay(0, 7));
        Due.yes("lay(1, 7), the last place", x.lay(1, 7));
        Due.no("lay(2, 7), one too many", x.lay(2, 7));
        Due.yes("lay(2, 6), the only place", x.lay(2, 6));
        Due.no("lay(1, 6), one too many", x.lay(1, 6));
    }

    private static void needsOfTheTerms() {
        Due.about(Doc.TERMS, "A PLANT needs light and wet from .. to (0 .. 9 each; at first all).");
        int[][] corners = {{0, 0}, {0, 9}, {9, 0}, {9, 9}};
        for (int[] corner : corners) {
            BedBook x = plants(1);
            x.seed(0, NONE, 1);
            x.cut(0, 1);
            x.split(0, 1);
            x.bed(corner[0], corner[1], 40);
            for (int plant = 0; plant < 4; plant++) {
                Due.yes("at first " + plant + " SUITS " + corner[0] + ", " + corner[1], x.lay(plant, 0));
            }
        }
    }

    private static void suits() {
        Due.about(Doc.TERMS, "It SUITS a BED if both are within; it may lie in one.");
        BedBook x = plants(1);
        for (int light = 0; light < 10; light++) {
            x = plants(1);
            x.bed(light, 5, 1);
            x.needs(0, 3, 6, 0, 9);
            Due.is("light " + light + " within 3 .. 6", x.lay(0, 0) ? 1 : 0, light >= 3 && light <= 6 ? 1 : 0);
            x.change(0, 5, light);
            x.needs(0, 0, 9, 4, 7);
            Due.is("wet " + light + " within 4 .. 7", x.lay(0, 0) ? 1 : 0, light >= 4 && light <= 7 ? 1 : 0);
            x.change(0, light, 9 - light);
            x.needs(0, light, light, 9 - light, 9 - light);
            Due.yes("just light " + light + ", wet " + (9 - light), x.lay(0, 0));
        }
        x.bed(0, 0, 1);
        x.needs(0, 0, 0, 0, 0);
        Due.yes("lay(0, 1)", x.lay(0, 1));
        Due.is("it lies in one alone", x.count(9), 1);
        Due.is("its BED", x.look(0, 7), 1);
    }

    private static final String MOVES = "MOVES: the least number of PLANTS that lie, so that all that lie could lie,"
        + " each in a BED that it suits, no BED with more than it is for; a PLANT counts that would not be in its own one.";

    private static void movesOfNone() {
        Due.about(Doc.TERMS, MOVES);
        BedBook x = new BedBook();
        Due.is("without PLANTS and BEDS", x.moves(), 0);
        x.bed(1, 1, 1);
        Due.is("without PLANTS", x.moves(), 0);
        x.wild(1, 1);
        x.needs(0, 9, 9, 9, 9);
        Due.is("when none lies", x.moves(), 0);
        Due.is("without BEDS", plants(40).moves(), 0);
    }

    private static void movesOfAFullBed() {
        Due.about(Doc.TERMS, "no BED with more than it is for");
        BedBook x = plants(3);
        x.bed(1, 1, 2);
        x.bed(5, 5, 1);
        x.lay(0, 0);
        x.lay(1, 0);
        x.lay(2, 1);
        Due.is("all are full and suit", x.moves(), 0);
        x.needs(2, 0, 4, 0, 4);
        Due.is("one into the full one, one out of it", x.moves(), 2);
        x.needs(0, 0, 4, 0, 4);
        Due.is("the other one goes out", x.moves(), 2);
        x.needs(1, 0, 4, 0, 4);
        Due.is("three for two", x.moves(), NONE);
        x.lay(1, NONE);
        Due.is("two for two", x.moves(), 1);
        x.change(1, 4, 4);
        Due.is("it suits again where it lies", x.moves(), 0);
    }

    private static void movesOfRoom() {
        Due.about(Doc.TERMS, "no BED with more than it is for");
        for (int room = 38; room <= 40; room++) {
            BedBook x = plants(40);
            x.bed(0, 0, 40);
            x.bed(9, 9, room);
            for (int i = 0; i < 40; i++) {
                x.lay(i, 0);
                x.needs(i, 9, 9, 9, 9);
            }
            Due.is("40 into room for " + room, x.moves(), room == 40 ? 40 : NONE);
            x.lay(0, NONE);
            Due.is("39 into room for " + room, x.moves(), room >= 39 ? 39 : NONE);
        }
    }

    private static void movesOfAll() {
        Due.about(Doc.TERMS, "all that lie could lie, each in a BED that it suits");
        BedBook x = plants(40);
        for (int b = 0; b < 8; b++) {
            x.bed(b, 0, 5);
        }
        for (int i = 0; i < 40; i++) {
            x.lay(i, i / 5);
            x.needs(i, (i / 5 + 1) % 8, (i / 5 + 1) % 8, 0, 9);
        }
        Due.is("all 40 go round the 8", x.moves(), 40);
        x.needs(0, 0, 1, 0, 9);
        Due.is("one may stay, but nobody else", x.moves(), 40);
        for (int b = 1; b < 8; b++) {
            int from = Math.min(b, (b + 1) % 8);
            x.needs(5 * b, from, Math.max(b, (b + 1) % 8), 0, 9);
        }
        Due.is("one of each may stay", x.moves(), 32);
        x.needs(39, 8, 8, 0, 9);
        Due.is("one suits none", x.moves(), NONE);
        x.lay(39, NONE);
        Due.is("it lies no more", x.moves(), 31);
    }

    /** Eight beds for one each; all but the last one lie, and each could make way to the next or to the one before. */
    private static void movesByChains() {
        Due.about(Doc.TERMS, "MOVES: the least number of PLANTS that lie");
        for (int way = 0; way < 2; way++) {
            BedBook x = plants(8);
            for (int i = 0; i < 8; i++) {
                x.bed(way == 0 ? i : 7 - i, 0, 1);
            }
            for (int i = 0; i < 7; i++) {
                x.lay(way == 0 ? i : 6 - i, i);
            }
            for (int plant = 0; plant < 7; plant++) {
                int light = way == 0 ? plant : 1 + plant;
                x.needs(plant, way == 0 ? light : light - 1, way == 0 ? light + 1 : light, 0, 9);
            }
            Due.is("none moves, way " + way, x.moves(), 0);
            int first = way == 0 ? 0 : 6;
            x.needs(first, way == 0 ? 1 : 6, way == 0 ? 1 : 6, 0, 9);
            Due.is("all seven make way, way " + way, x.moves(), 7);
            x.needs(3, 0, 9, 0, 9);
            Due.is("one goes to the end at once, or to the beginning, way " + way, x.moves(), 4);
        }
    }

    private static void movesByOneThatGoesAgain() {
        Due.about(Doc.TERMS, "all that lie could lie, each in a BED that it suits, no BED with more than it is for");
        BedBook x = plants(4);
        for (int i = 0; i < 5; i++) {
            x.bed(i, i, 1);
        }
        for (int i = 0; i < 4; i++) {
            x.lay(i, i);
        }
        x.needs(0, 1, 1, 0, 9);
        x.needs(1, 1, 4, 0, 9);
        Due.is("1 makes way for 0", x.moves(), 2);
        x.needs(2, 4, 4, 0, 9);
        Due.is("1 goes where 2 was", x.moves(), 3);
        x.needs(3, 2, 2, 0, 9);
        Due.is("1 goes where 3 was", x.moves(), 4);
        x.lay(0, NONE);
        Due.is("1 stays", x.moves(), 2);
        x.lay(2, NONE);
        Due.is("3 alone goes", x.moves(), 1);
    }

    /** 1 must make way for 0, and then rather than 2 for 3, too; with the beds told in either order. */
    private static void movesOfOneThatMovesAnyway() {
        Due.about(Doc.TERMS, "a PLANT counts that would not be in its own one.");
        int[][] beds = {{1, 0, 1}, {2, 0, 2}, {3, 0, 1}, {2, 5, 1}, {9, 9, 2}};
        for (int way = 0; way < 2; way++) {
            BedBook x = plants(4);
            for (int i = 0; i < 5; i++) {
                int[] b = beds[way == 0 ? i : 4 - i];
                x.bed(b[0], b[1], b[2]);
            }
            x.lay(0, way == 0 ? 4 : 0);
            x.lay(1, way == 0 ? 0 : 4);
            x.lay(2, way == 0 ? 1 : 3);
            x.lay(3, way == 0 ? 4 : 0);
            x.needs(0, 1, 1, 0, 9);
            x.needs(1, 1, 3, 0, 0);
            x.needs(2, 2, 2, 0, 9);
            x.needs(3, 2, 2, 0, 0);
            Due.is("way " + way, x.moves(), 3);
        }
    }

    private static void movesOfOwnOnes() {
        Due.about(Doc.TERMS, "a PLANT counts that would not be in its own one.");
        BedBook x = plants(2);
        x.bed(1, 1, 1);
        x.bed(1, 1, 1);
        x.bed(7, 7, 1);
        x.lay(0, 0);
        x.lay(1, 1);
        x.needs(0, 5, 9, 0, 9);
        Due.is("another one is free", x.moves(), 1);
        x.needs(1, 5, 9, 0, 9);
        Due.is("one free for two", x.moves(), NONE);
        x.change(1, 7, 7);
        Due.is("one stays, one goes", x.moves(), 1);
        x.change(0, 7, 7);
        Due.is("both stay", x.moves(), 0);
    }

    private static void bed() {
        Due.about(11, "A BED more: its number;");
        BedBook x = plants(40);
        Due.is("bed(0, 0, 1)", x.bed(0, 0, 1), 0);
        Due.is("bed(9, 9, 40)", x.bed(9, 9, 40), 1);
        Due.about(11, "NONE: other numbers (room 1 .. 40), 8 are there.");
        int[] wrong = {MIN, -1, 10, MAX};
        for (int n : wrong) {
            Due.is("bed(" + n + ", 1, 1)", x.bed(n, 1, 1), NONE);
            Due.is("bed(1, " + n + ", 1)", x.bed(1, n, 1), NONE);
        }
        int[] wrongRooms = {MIN, -1, 0, 41, MAX};
        for (int room : wrongRooms) {
            Due.is("bed(1, 1, " + room + ")", x.bed(1, 1, room), NONE);
        }
        Due.is("BEDS", x.count(2), 2);
        for (int i = 0; i < 40; i++) {
            Due.yes("room for the " + (i + 1) + "-th", x.lay(i, 1));
        }
        for (int i = 2; i < 8; i++) {
            Due.is("no number is lost", x.bed(1, 1, 1), i);
        }
        Due.is("the 9th", x.bed(1, 1, 1), NONE);
        Due.is("BEDS", x.count(2), 8);
    }

    private static void change() {
        Due.about(12, "A BED's light and wet are others from now on (PLANTS stay): true;");
        BedBook x = plants(2);
        x.bed(5, 5, 2);
        x.bed(5, 5, 2);
        x.needs(0, 5, 5, 5, 5);
        x.lay(0, 0);
        Due.yes("change(0, 0, 9)", x.change(0, 0, 9));
        Due.is("it stays", x.look(0, 7), 0);
        Due.is("and is counted", x.count(9), 1);
        Due.is("it would go", x.moves(), 1);
        Due.yes("change(1, 9, 0)", x.change(1, 9, 0));
        Due.is("it can't be", x.moves(), NONE);
        x.needs(1, 0, 0, 9, 9);
        Due.yes("others SUIT", x.lay(1, 0));
        Due.about(12, "false: none such.");
        int[] none = {MIN, -1, 2, 7, 8, MAX};
        for (int b : none) {
            Due.no("change(" + b + ", 1, 1)", x.change(b, 1, 1));
        }
        int[] wrong = {MIN, -1, 10, MAX};
        for (int n : wrong) {
            Due.no("change(0, " + n + ", 1)", x.change(0, n, 1));
            Due.no("change(0, 1, " + n + ")", x.change(0, 1, n));
        }
        Due.yes("it is as it was", x.lay(1, 0));
    }

    private static void needs() {
        Due.about(13, "What a PLANT needs: true;");
        BedBook x = plants(1);
        x.bed(4, 6, 1);
        Due.yes("needs(0, 0, 9, 0, 9)", x.needs(0, 0, 9, 0, 9));
        Due.yes("needs(0, 0, 0, 9, 9)", x.needs(0, 0, 0, 9, 9));
        Due.yes("needs(0, 9, 9, 0, 0)", x.needs(0, 9, 9, 0, 0));
        Due.yes("from and to are one", x.needs(0, 4, 4, 6, 6));
        Due.yes("it SUITS", x.lay(0, 0));
        Due.yes("where it lies does not matter", x.needs(0, 9, 9, 9, 9));
        Due.is("it stays", x.look(0, 7), 0);
        x.needs(0, 4, 4, 6, 6);
        Due.about(13, "false: no such PLANT, other numbers (from above to).");
        int[] none = {MIN, -1, 1, 40, MAX};
        for (int plant : none) {
            Due.no("needs(" + plant + ", ..)", x.needs(plant, 0, 9, 0, 9));
        }
        int[] wrong = {MIN, -1, 10, MAX};
        for (int n : wrong) {
            Due.no("light from " + n, x.needs(0, n, 9, 0, 9));
            Due.no("light to " + n, x.needs(0, 0, n, 0, 9));
            Due.no("wet from " + n, x.needs(0, 0, 9, n, 9));
            Due.no("wet to " + n, x.needs(0, 0, 9, 0, n));
        }
        for (int n = 1; n <= 9; n++) {
            Due.no("light from " + n + " to " + (n - 1), x.needs(0, n, n - 1, 0, 9));
            Due.no("wet from " + n + " to " + (n - 1), x.needs(0, 0, 9, n, n - 1));
        }
        Due.yes("it still SUITS", x.lay(0, 0));
        x.change(0, 5, 6);
        Due.no("light is still needed", x.lay(0, 0));
        x.change(0, 4, 5);
        Due.no("wet is still needed", x.lay(0, 0));
    }

    private static void lay() {
        Due.about(14, "A PLANT lies in a BED (from another one, too): true;");
        BedBook x = plants(3);
        x.bed(1, 1, 1);
        x.bed(2, 2, 2);
        Due.yes("lay(0, 0)", x.lay(0, 0));
        Due.yes("where it lies, the BED being full of it", x.lay(0, 0));
        Due.yes("from another one", x.lay(0, 1));
        Due.is("its BED", x.look(0, 7), 1);
        Due.is("it lies once", x.count(9), 1);
        Due.yes("the other one has room again", x.lay(1, 0));
        Due.yes("the last place", x.lay(2, 1));
        Due.yes("where it lies, the BED being full", x.lay(0, 1));
        Due.is("PLANTS that lie", x.count(9), 3);
    }

    private static void layRefused() {
        Due.about(14, "false: none such, it doesn't SUIT, the BED is full.");
        BedBook x = plants(3);
        x.bed(1, 1, 1);
        x.bed(2, 2, 2);
        int[] nonePlants = {MIN, -1, 3, 40, MAX};
        for (int plant : nonePlants) {
            Due.no("lay(" + plant + ", 0)", x.lay(plant, 0));
            Due.no("lay(" + plant + ", NONE)", x.lay(plant, NONE));
        }
        int[] noneBeds = {MIN, -2, 2, 7, 8, MAX};
        for (int b : noneBeds) {
            Due.no("lay(0, " + b + ")", x.lay(0, b));
        }
        Due.is("none lies", x.count(9), 0);
        x.lay(0, 0);
        Due.no("full", x.lay(1, 0));
        Due.is("it lies in none still", x.look(1, 7), NONE);
        x.lay(1, 1);
        Due.no("full, from another one", x.lay(1, 0));
        Due.is("it stays", x.look(1, 7), 1);
        x.needs(2, 1, 1, 1, 1);
        Due.no("it doesn't SUIT", x.lay(2, 1));
        x.needs(0, 1, 1, 1, 1);
        Due.no("it doesn't SUIT, from another one", x.lay(0, 1));
        Due.is("it stays", x.look(0, 7), 0);
        x.needs(0, 9, 9, 1, 1);
        Due.no("it doesn't SUIT where it lies", x.lay(0, 0));
        Due.is("it stays there", x.look(0, 7), 0);
    }

    private static void layInNone() {
        Due.about(14, "NONE as the BED: it lies in none (true).");
        BedBook x = plants(1);
        Due.yes("without BEDS", x.lay(0, NONE));
        x.bed(1, 1, 1);
        x.lay(0, 0);
        x.needs(0, 9, 9, 9, 9);
        Due.yes("out of one that it doesn't SUIT", x.lay(0, NONE));
        Due.is("its BED", x.look(0, 7), NONE);
        Due.is("none lies", x.count(9), 0);
        Due.yes("once more", x.lay(0, NONE));
    }

    private static void moves() {
        Due.about(15, "MOVES; NONE: it can't be.");
        BedBook x = plants(2);
        x.bed(1, 1, 1);
        x.lay(0, 0);
        Due.is("none moves", x.moves(), 0);
        x.needs(0, 2, 2, 0, 9);
        Due.is("the only BED does not suit", x.moves(), NONE);
        x.bed(2, 2, 1);
        Due.is("another BED suits", x.moves(), 1);
        x.lay(1, 1);
        Due.is("they change places", x.moves(), 2);
        Due.is("once more", x.moves(), 2);
        x.needs(1, 2, 9, 0, 9);
        Due.is("both need the one", x.moves(), NONE);
        Due.is("nothing was moved: 0", x.look(0, 7), 0);
        Due.is("nothing was moved: 1", x.look(1, 7), 1);
    }
}
