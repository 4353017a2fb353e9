import java.util.ArrayList;
import java.util.List;
import java.util.NoSuchElementException;

/**
 * What a call refuses leaves all as it was: two books are told the same, one is asked for what it must refuse, and from
 * then on both must answer alike, whatever they are asked.
 */
final class Refusals {
    private static final int NONE = BedBook.NONE;
    private static final int THROWS = -77;

    /** A call with its arguments; true counts 1, false 0. */
    private interface Call {
        int ask(BedBook x, int[] a);
    }

    private Refusals() {
    }

    static void run() {
        plantCalls();
        nameCalls();
        bedCalls();
        textCalls();
        checkCalls();
        lookCalls();
        refusedByWhatStandsThere();
        wrongTexts();
    }

    private static int bit(boolean answer) {
        return answer ? 1 : 0;
    }

    /** Five plants, two beds, names, a text, what was sent, an open check, and signs on the tape. */
    private static BedBook garden() {
        BedBook x = new BedBook();
        x.wild(5, 10);
        x.wild(6, 1);
        x.seed(0, 1, 3);
        x.cut(0, 2);
        x.split(0, 4);
        x.mark(0, 0, 1, 2);
        x.mark(1, 1, 3, 4);
        x.mark(2, 2, 5, 5);
        x.days(3);
        x.name(0, 7);
        x.name(2, 8);
        x.join(7, 9);
        x.bed(2, 3, 2);
        x.bed(4, 5, 1);
        x.needs(1, 0, 3, 0, 9);
        x.lay(0, 0);
        x.lay(1, 0);
        x.lay(2, 1);
        Due.read(x, "bar when aim = 9; let when house < 50;");
        x.days(4);
        x.send(0, 3, 4);
        x.send(1, 3, 4);
        x.name(0, 8);
        x.join(8, 10);
        x.close(0);
        x.seen(0, 9);
        x.seen(2, 8);
        Due.put(x, "let when 1 ;;");
        return x;
    }

    private static void plantCalls() {
        Due.about(2, "NONE for another n, beyond 9999.");
        each("days", new int[] {1}, new int[][] {{0, 1000}}, NONE, (x, a) -> x.days(a[0]));
        Due.about(3, "NONE: another place (0 .. 99), pieces, 40 are there.");
        each("wild", new int[] {1, 1}, new int[][] {{0, 99}, {1, 100}}, NONE, (x, a) -> x.wild(a[0], a[1]));
        Due.about(4, "NONE: none such, pieces, 40 are there.");
        each("seed", new int[] {1, 0, 1}, new int[][] {{0, 4}, {-1, 4}, {1, 100}}, NONE, (x, a) -> x.seed(a[0], a[1], a[2]));
        Due.about(5, "NONE: no such PLANT, pieces, 40 are there.");
        each("cut", new int[] {1, 1}, new int[][] {{0, 4}, {1, 100}}, NONE, (x, a) -> x.cut(a[0], a[1]));
        Due.about(6, "NONE: no such PLANT, not 1 .. all but one of its pieces, 40 are there.");
        each("split", new int[] {0, 1}, new int[][] {{0, 4}, {1, 4}}, NONE, (x, a) -> x.split(a[0], a[1]));
        Due.about(7, "false: no such PLANT, row, other numbers.");
        each("mark", new int[] {1, 1, 6, 7}, new int[][] {{0, 4}, {0, 3}, {0, 9}, {0, 9}}, 0,
            (x, a) -> bit(x.mark(a[0], a[1], a[2], a[3])));
    }

    private static void nameCalls() {
        Due.about(8, "false: none such, 300 were given.");
        each("name", new int[] {1, 1}, new int[][] {{0, 4}, {1, 50}}, 0, (x, a) -> bit(x.name(a[0], a[1])));
        Due.about(9, "false: no such NAMES, the same, it would lead back to it, 100 were told.");
        each("join", new int[] {20, 21}, new int[][] {{1, 50}, {0, 50}}, 0, (x, a) -> bit(x.join(a[0], a[1])));
        Due.about(10, "NoSuchElementException: none such.");
        each("named", new int[] {0, 0, 0}, new int[][] {{0, 4}, {0, 7}, {0, 1}}, THROWS, (x, a) -> x.named(a[0], a[1], a[2]));
    }

    private static void bedCalls() {
        int[] digit = {0, 9};
        Due.about(11, "NONE: other numbers (room 1 .. 40), 8 are there.");
        each("bed", new int[] {1, 1, 1}, new int[][] {digit, digit, {1, 40}}, NONE, (x, a) -> x.bed(a[0], a[1], a[2]));
        Due.about(12, "false: none such.");
        each("change", new int[] {0, 1, 1}, new int[][] {{0, 1}, digit, digit}, 0, (x, a) -> bit(x.change(a[0], a[1], a[2])));
        Due.about(13, "false: no such PLANT, other numbers (from above to).");
        each("needs", new int[] {0, 4, 5, 4, 5}, new int[][] {{0, 4}, {0, 5}, {4, 9}, {0, 5}, {4, 9}}, 0,
            (x, a) -> bit(x.needs(a[0], a[1], a[2], a[3], a[4])));
        Due.about(14, "false: none such, it doesn't SUIT, the BED is full.");
        each("lay", new int[] {2, -1}, new int[][] {{0, 4}, {-1, 1}}, 0, (x, a) -> bit(x.lay(a[0], a[1])));
    }

    private static void textCalls() {
        int[] plant = {0, 4};
        Due.about(18, "NONE: no such PLANT, house, aim.");
        each("may", new int[] {0, 1, 1}, new int[][] {plant, {0, 99}, {0, 9}}, NONE, (x, a) -> x.may(a[0], a[1], a[2]));
        Due.about(19, "false: not so, no piece, 100 are written.");
        each("send", new int[] {0, 1, 1}, new int[][] {plant, {0, 49}, {0, 8}}, 0, (x, a) -> bit(x.send(a[0], a[1], a[2])));
        Due.about(20, "NONE: none such.");
        each("sent", new int[] {0, 0}, new int[][] {{0, 1}, {0, 3}}, NONE, (x, a) -> x.sent(a[0], a[1]));
    }

    private static void checkCalls() {
        Due.about(21, "false: none such, it lies in none.");
        each("seen", new int[] {0, 5}, new int[][] {{0, 2}, {1, 100}}, 0, (x, a) -> bit(x.seen(a[0], a[1])));
        Due.about(22, "NONE: no such BED.");
        each("close", new int[] {0}, new int[][] {{0, 1}}, NONE, (x, a) -> x.close(a[0]));
        Due.about(23, "NONE: none such.");
        each("fits", new int[] {0}, new int[][] {{0, 4}}, NONE, (x, a) -> x.fits(a[0]));
        Due.about(24, "NONE: no such two.");
        each("changed", new int[] {1, 2}, new int[][] {{0, 4}, {0, 4}}, NONE, (x, a) -> x.changed(a[0], a[1]));
    }

    private static void lookCalls() {
        Due.about(25, "NoSuchElementException: none such.");
        each("look", new int[] {0, 5}, new int[][] {{0, 4}, {0, 17}}, THROWS, (x, a) -> x.look(a[0], a[1]));
        Due.about(26, "NONE for another what.");
        each("count", new int[] {0}, new int[][] {{0, 9}}, NONE, (x, a) -> x.count(a[0]));
    }

    /** Each argument in turn at its bounds, which are taken, and beyond them, which is refused. */
    private static void each(String name, int[] right, int[][] bounds, int refusal, Call call) {
        for (int i = 0; i < right.length; i++) {
            int from = bounds[i][0];
            int to = bounds[i][1];
            for (int value : new int[] {from, to}) {
                int[] a = right.clone();
                a[i] = value;
                Due.no(name + " is refused with argument " + i + " = " + value, ask(garden(), a, call) == refusal);
            }
            for (int value : new int[] {Integer.MIN_VALUE, from - 1, to + 1, Integer.MAX_VALUE}) {
                int[] a = right.clone();
                a[i] = value;
                refused(name + " with argument " + i + " = " + value, a, refusal, call);
            }
        }
    }

    private static int ask(BedBook x, int[] a, Call call) {
        try {
            return call.ask(x, a);
        } catch (NoSuchElementException e) {
            return THROWS;
        }
    }

    private static void refused(String what, int[] a, int refusal, Call call) {
        BedBook asked = garden();
        Due.is(what, ask(asked, a, call), refusal);
        Due.yes(what + " left all as it was", all(asked).equals(all(garden())));
    }

    private static void refusedByWhatStandsThere() {
        int[] none = {};
        Due.about(6, "not 1 .. all but one of its pieces");
        refused("split of all pieces", none, NONE, (x, a) -> x.split(0, 5));
        refused("split of one without a piece", none, NONE, (x, a) -> x.split(1, 1));
        Due.about(9, "the same, it would lead back to it");
        refused("join to the same", none, 0, (x, a) -> bit(x.join(7, 7)));
        refused("join that leads back", none, 0, (x, a) -> bit(x.join(9, 7)));
        Due.about(13, "(from above to)");
        refused("needs light from above to", none, 0, (x, a) -> bit(x.needs(0, 5, 4, 0, 9)));
        refused("needs wet from above to", none, 0, (x, a) -> bit(x.needs(0, 0, 9, 9, 8)));
        Due.about(14, "it doesn't SUIT, the BED is full.");
        refused("lay in a full one", none, 0, (x, a) -> bit(x.lay(2, 0)));
        refused("lay in a full one, from none", none, 0, (x, a) -> bit(x.lay(3, 1)));
        refused("lay where it does not suit", none, 0, (x, a) -> bit(x.lay(1, 1)));
        Due.about(19, "not so, no piece");
        refused("send that is barred", none, 0, (x, a) -> bit(x.send(0, 3, 9)));
        refused("send that is not let", none, 0, (x, a) -> bit(x.send(0, 50, 4)));
        refused("send without a piece", none, 0, (x, a) -> bit(x.send(1, 3, 4)));
        Due.about(21, "it lies in none");
        refused("seen of one that lies in none", none, 0, (x, a) -> bit(x.seen(3, 5)));
        Due.about(24, "no such two");
        refused("changed of one", none, NONE, (x, a) -> x.changed(2, 2));
    }

    private static void wrongTexts() {
        Due.about(17, ": 0, or its FAULT.");
        String[] texts = {"bar", "bar when 1;#", "bar when 1;".repeat(17), "bar when 1; bar when (((((1)))));", "let when 1; let"};
        for (String text : texts) {
            BedBook read = garden();
            BedBook empty = garden();
            read.text();
            empty.text();
            Due.yes("text() of: " + text, Due.read(read, text) != 0);
            Due.yes("a FAULT leaves all but the TAPE: " + text, all(read).equals(all(empty)));
        }
    }

    /** The answers to all that can be asked, of a few plants and two beds; the book is not the same behind it. */
    private static List<Integer> all(BedBook x) {
        List<Integer> answers = new ArrayList<>();
        int plants = Math.min(6, x.count(0));
        for (int what = 0; what < 10; what++) {
            answers.add(x.count(what));
        }
        for (int p = 0; p < plants; p++) {
            looks(x, p, answers);
        }
        for (int i = 0; i < 3; i++) {
            for (int what = 0; what < 4; what++) {
                answers.add(x.sent(i, what));
            }
        }
        answers.add(x.moves());
        answers.add(x.text());
        answers.add(x.count(7));
        answers.add(x.may(0, 60, 9));
        checks(x, plants, answers);
        bedsAndNeeds(x, plants, answers);
        return answers;
    }

    private static void looks(BedBook x, int p, List<Integer> answers) {
        for (int what = 0; what < 18; what++) {
            answers.add(x.look(p, what));
        }
        for (int day = 0; day <= x.count(1); day += 3) {
            answers.add(x.named(p, day, 0));
            answers.add(x.named(p, day, 1));
        }
        answers.add(x.fits(p));
        answers.add(x.changed(p, 0));
        answers.add(x.may(p, 3, 4));
        answers.add(x.may(p, 3, 9));
        answers.add(x.may(p, 60, 4));
    }

    private static void checks(BedBook x, int plants, List<Integer> answers) {
        answers.add(x.close(0));
        answers.add(x.close(1));
        for (int p = 0; p < plants; p++) {
            answers.add(x.look(p, 3));
            answers.add(x.look(p, 8));
            answers.add(x.look(p, 9));
        }
    }

    /** What each one suits as it is, and what light and wet the beds have. */
    private static void bedsAndNeeds(BedBook x, int plants, List<Integer> answers) {
        for (int p = 0; p < plants; p++) {
            x.lay(p, NONE);
        }
        for (int p = 0; p < plants; p++) {
            answers.add(bit(x.lay(p, 0)));
            answers.add(bit(x.lay(p, 1)));
            x.lay(p, NONE);
        }
        for (int n = 0; n < 10; n++) {
            for (int bed = 0; bed < 2; bed++) {
                x.needs(0, n, n, 0, 9);
                answers.add(bit(x.lay(0, bed)));
                x.needs(0, 0, 9, n, n);
                answers.add(bit(x.lay(0, bed)));
            }
        }
    }
}
