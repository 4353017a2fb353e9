import java.util.NoSuchElementException;
import java.util.Random;
import java.util.function.Supplier;

/** Runs of calls drawn with fixed seeds: BedBook and Model must answer alike, and nothing else may ever be thrown. */
public final class ModelTest {
    private static final int RUNS = 3000;
    private static final int CALLS = 512;
    private static final double MOST_FILLINGS = 20000;

    private final Random random;
    private final BedBook book = new BedBook();
    private final Model model = new Model();
    private final int run;
    /** What a run is mostly about, so that its limits are met: -1 for a bit of all. */
    private final int theme;
    private int number;
    private String pending = "";

    private ModelTest(int run) {
        this.run = run;
        this.random = new Random(run);
        this.theme = random.nextInt(9) - 1;
    }

    public static void main(String[] args) {
        for (int run = 0; run < RUNS; run++) {
            new ModelTest(run).play();
        }
        Due.end();
    }

    private void play() {
        for (number = 0; number < CALLS; number++) {
            call();
        }
    }

    private static Object answer(Supplier<Object> asked) {
        try {
            return asked.get();
        } catch (NoSuchElementException e) {
            return "NoSuchElementException";
        } catch (RuntimeException e) {
            return e.toString();
        }
    }

    private void same(String call, Supplier<Object> ofBook, Supplier<Object> ofModel) {
        Object got = answer(ofBook);
        Object want = answer(ofModel);
        if (!got.equals(want)) {
            Due.is("run " + run + ", call " + number + ": " + call + " (" + got + ", due " + want + ")", 1, 0);
        } else {
            Due.is("", 0, 0);
        }
    }

    /** A number from .. to, and now and then one outside. */
    private int draw(int from, int to) {
        int luck = random.nextInt(40);
        if (luck == 0) {
            return from - 1;
        }
        if (luck == 1) {
            return to + 1;
        }
        if (luck == 2) {
            return random.nextBoolean() ? from : to;
        }
        if (luck == 3 && random.nextInt(4) == 0) {
            return random.nextBoolean() ? random.nextInt() : random.nextBoolean() ? Integer.MIN_VALUE : Integer.MAX_VALUE;
        }
        return from + random.nextInt(Math.max(1, to - from + 1));
    }

    private int plant() {
        return draw(0, Math.max(0, model.count(0) - 1));
    }

    private int bed() {
        return draw(0, Math.max(0, model.count(2) - 1));
    }

    private int pieces() {
        return random.nextInt(3) == 0 ? draw(1, 100) : draw(1, 6);
    }

    private int someMark() {
        return random.nextInt(4) == 0 ? draw(0, 9) : draw(0, 2);
    }

    private int someName() {
        return random.nextInt(3) == 0 ? draw(1, 50) : draw(1, 7);
    }

    private void call() {
        int kind = theme >= 0 && random.nextInt(3) > 0 ? theme : random.nextInt(8);
        switch (kind) {
            case 0: callPlants(); break;
            case 1: callNames(); break;
            case 2: callBeds(); break;
            case 3: callText(); break;
            case 4: callSend(); break;
            case 5: callChecks(); break;
            case 6: callMarks(); break;
            default: callLooks(); break;
        }
    }

    private void callPlants() {
        int a = plant();
        int b = random.nextInt(3) == 0 ? -1 : plant();
        int n = pieces();
        int place = draw(0, 99);
        switch (random.nextInt(6)) {
            case 0: same("wild " + place + " " + n, () -> book.wild(place, n), () -> model.wild(place, n)); break;
            case 1: same("seed " + a + " " + b + " " + n, () -> book.seed(a, b, n), () -> model.seed(a, b, n)); break;
            case 2: same("cut " + a + " " + n, () -> book.cut(a, n), () -> model.cut(a, n)); break;
            case 3: same("split " + a + " " + n, () -> book.split(a, n), () -> model.split(a, n)); break;
            default: passDays(); break;
        }
    }

    private void passDays() {
        int n = random.nextInt(5) == 0 ? draw(0, 1000) : draw(0, 2);
        same("days " + n, () -> book.days(n), () -> model.days(n));
    }

    private void callNames() {
        int p = plant();
        int a = someName();
        int b = random.nextInt(4) == 0 ? 0 : someName();
        int day = draw(0, model.count(1));
        int what = draw(0, 1);
        switch (random.nextInt(8)) {
            case 0: case 1: case 2:
                same("name " + p + " " + a, () -> book.name(p, a), () -> model.name(p, a)); break;
            case 3: case 4:
                same("join " + a + " " + b, () -> book.join(a, b), () -> model.join(a, b)); break;
            case 5: passDays(); break;
            default:
                same("named " + p + " " + day + " " + what, () -> book.named(p, day, what), () -> model.named(p, day, what));
                break;
        }
    }

    private void callBeds() {
        int p = plant();
        int b = random.nextInt(20) == 0 ? -1 : bed();
        int light = draw(0, 9);
        int wet = draw(0, 9);
        int room = random.nextInt(5) == 0 ? draw(1, 40) : draw(1, 3);
        switch (random.nextInt(9)) {
            case 0:
                same("bed " + light + " " + wet + " " + room, () -> book.bed(light, wet, room), () -> model.bed(light, wet, room));
                break;
            case 1:
                same("change " + b + " " + light + " " + wet, () -> book.change(b, light, wet), () -> model.change(b, light, wet));
                break;
            case 2: case 3: callNeeds(p, light, wet); break;
            case 4: case 5: case 6:
                same("lay " + p + " " + b, () -> book.lay(p, b), () -> model.lay(p, b)); break;
            default: callMoves(); break;
        }
    }

    private void callNeeds(int p, int light, int wet) {
        int[] n = {random.nextInt(5), light, random.nextInt(5), wet};
        if (random.nextInt(3) == 0) {
            n = new int[] {0, 9, 0, 9};
        }
        int[] m = n;
        same("needs " + p, () -> book.needs(p, m[0], m[1], m[2], m[3]), () -> model.needs(p, m[0], m[1], m[2], m[3]));
    }

    private void callMoves() {
        if (model.fillings() <= MOST_FILLINGS) {
            same("moves", () -> book.moves(), () -> model.moves());
        } else {
            book.moves();
        }
    }

    private void callText() {
        if (pending.isEmpty()) {
            if (model.count(8) > 0 && random.nextInt(5) > 0) {
                same("text", () -> book.text(), () -> model.text());
                return;
            }
            pending = new SomeText(random).text();
        }
        int length = Math.min(pending.length(), 24);
        String part = pending.substring(0, length);
        pending = pending.substring(length);
        long a = Due.eight(part, 0);
        long b = Due.eight(part, 8);
        long c = Due.eight(part, 16);
        same("feed " + part, () -> book.feed(a, b, c), () -> model.feed(a, b, c));
    }

    private void callSend() {
        int p = plant();
        int house = draw(0, 99);
        int aim = draw(0, 9);
        int i = draw(0, Math.max(0, model.count(5)));
        int what = draw(0, 3);
        switch (random.nextInt(6)) {
            case 0: case 1: same("send " + p + " " + house + " " + aim, () -> book.send(p, house, aim), () -> model.send(p, house, aim)); break;
            case 2: same("sent " + i + " " + what, () -> book.sent(i, what), () -> model.sent(i, what)); break;
            case 3: callText(); break;
            default: same("may " + p + " " + house + " " + aim, () -> book.may(p, house, aim), () -> model.may(p, house, aim)); break;
        }
    }

    private void callChecks() {
        int p = plant();
        int b = bed();
        int n = pieces();
        switch (random.nextInt(4)) {
            case 0: same("close " + b, () -> book.close(b), () -> model.close(b)); break;
            case 1: same("lay " + p + " " + b, () -> book.lay(p, b), () -> model.lay(p, b)); break;
            default: same("seen " + p + " " + n, () -> book.seen(p, n), () -> model.seen(p, n)); break;
        }
    }

    private void callMarks() {
        int p = plant();
        int q = plant();
        int row = random.nextInt(3) == 0 ? draw(0, 3) : 0;
        int a = someMark();
        int b = someMark();
        switch (random.nextInt(4)) {
            case 0: same("fits " + p, () -> book.fits(p), () -> model.fits(p)); break;
            case 1: same("changed " + p + " " + q, () -> book.changed(p, q), () -> model.changed(p, q)); break;
            default:
                same("mark " + p + " " + row + " " + a + " " + b, () -> book.mark(p, row, a, b), () -> model.mark(p, row, a, b));
                break;
        }
    }

    private void callLooks() {
        int p = plant();
        int what = draw(0, 17);
        int counted = draw(0, 9);
        if (random.nextInt(3) == 0) {
            same("count " + counted, () -> book.count(counted), () -> model.count(counted));
        } else {
            same("look " + p + " " + what, () -> book.look(p, what), () -> model.look(p, what));
        }
    }

    /** A text, right or with a few signs or words changed. */
    private static final class SomeText {
        private static final String[] WORDS = {"let", "bar", "when", "and", "place", "name", "house", "aim", "cut", "pieces",
            "day", "(", ")", "<", "=", "+", "-", ";", "7", "0", "99999", "placenames", "x", "#", "A", "1", "((((("};
        private static final String[] FACTS = {"place", "name", "house", "aim", "cut", "pieces", "day"};

        private final Random random;
        private final StringBuilder out = new StringBuilder();

        SomeText(Random random) {
            this.random = random;
        }

        String text() {
            int lines = random.nextInt(12) == 0 ? 15 + random.nextInt(4) : 1 + random.nextInt(4);
            boolean brief = lines > 10;
            for (int i = 0; i < lines; i++) {
                word(random.nextBoolean() ? "let" : "bar");
                word("when");
                e(brief ? 4 : 0);
                word(";");
            }
            if (random.nextInt(2) == 0) {
                spoil();
            }
            return out.toString();
        }

        private void word(String w) {
            boolean tight = random.nextInt(3) == 0 && !(out.length() > 0 && Character.isLetter(out.charAt(out.length() - 1))
                && Character.isLetter(w.charAt(0)));
            if (!tight) {
                out.append(random.nextInt(8) == 0 ? "\n" : " ");
            }
            out.append(w);
        }

        private void e(int depth) {
            test(depth);
            while (random.nextInt(4) == 0) {
                word("and");
                test(depth);
            }
        }

        private void test(int depth) {
            sum(depth);
            if (random.nextInt(2) == 0) {
                word(random.nextBoolean() ? "<" : "=");
                sum(depth);
            }
        }

        private void sum(int depth) {
            part(depth);
            while (random.nextInt(4) == 0) {
                word(random.nextBoolean() ? "+" : "-");
                part(depth);
            }
        }

        private void part(int depth) {
            int luck = random.nextInt(10);
            if (luck < 2 + depth / 2 && depth < 4 || depth == 4 && random.nextInt(60) == 0) {
                word("(");
                e(depth + 1);
                word(")");
            } else if (luck < 6) {
                word(FACTS[random.nextInt(FACTS.length)]);
            } else {
                word(Integer.toString(random.nextInt(random.nextBoolean() ? 6 : 100)));
            }
        }

        private void spoil() {
            int at = random.nextInt(out.length());
            switch (random.nextInt(4)) {
                case 0: out.insert(at, WORDS[random.nextInt(WORDS.length)]); break;
                case 1: out.deleteCharAt(at); break;
                case 2: out.setLength(at); break;
                default: out.insert(at, " " + WORDS[random.nextInt(WORDS.length)] + " "); break;
            }
        }
    }
}
