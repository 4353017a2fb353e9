import java.util.ArrayList;
import java.util.Arrays;
import java.util.HashMap;
import java.util.List;
import java.util.Map;
import java.util.NoSuchElementException;
import java.util.regex.Matcher;
import java.util.regex.Pattern;

/**
 * The document once more, as plainly and as unlike the class as may be: everything is worked out anew from what was
 * told, with the Java library. ModelTest compares the two.
 */
final class Model {
    private static final class P {
        int kind, of = -1, father = -1, pieces, place, bed = -1, missed, told;
        boolean dead;
        int[] needs = {0, 9, 0, 9};
        int[][] marks = new int[4][2];
    }

    private final List<P> plants = new ArrayList<>();
    private final List<int[]> beds = new ArrayList<>();
    private final List<int[]> given = new ArrayList<>();
    private final List<int[]> ties = new ArrayList<>();
    private final List<int[]> sent = new ArrayList<>();
    private List<Line> lines = new ArrayList<>();
    private String tape = "";
    private int now;

    private boolean no(int plant) {
        return plant < 0 || plant >= plants.size();
    }

    private static boolean out(int x, int from, int to) {
        return x < from || x > to;
    }

    int days(int n) {
        if (out(n, 0, 1000) || out(now + n, 0, 9999)) {
            return -1;
        }
        return now += n;
    }

    private int add(int kind, int of, int father, int place, int pieces) {
        if (out(pieces, 1, 100) || plants.size() == 40) {
            return -1;
        }
        P p = new P();
        p.kind = kind;
        p.of = of;
        p.father = father;
        p.place = place;
        p.pieces = pieces;
        if (kind >= 2) {
            for (int i = 0; i < 4; i++) {
                p.marks[i] = plants.get(of).marks[i].clone();
            }
        }
        plants.add(p);
        return plants.size() - 1;
    }

    int wild(int place, int pieces) {
        return out(place, 0, 99) ? -1 : add(0, -1, -1, place, pieces);
    }

    int seed(int mother, int father, int pieces) {
        return no(mother) || (father != -1 && no(father)) ? -1 : add(1, mother, father, -1, pieces);
    }

    int cut(int of, int pieces) {
        return no(of) ? -1 : add(2, of, -1, -1, pieces);
    }

    int split(int of, int pieces) {
        if (no(of) || out(pieces, 1, plants.get(of).pieces - 1)) {
            return -1;
        }
        int made = add(3, of, -1, -1, pieces);
        if (made != -1) {
            plants.get(of).pieces -= pieces;
        }
        return made;
    }

    boolean mark(int plant, int row, int a, int b) {
        if (no(plant) || out(row, 0, 3) || out(a, 0, 9) || out(b, 0, 9)) {
            return false;
        }
        int[] two = {a, b};
        Arrays.sort(two);
        plants.get(plant).marks[row] = two;
        return true;
    }

    boolean name(int plant, int name) {
        if (no(plant) || out(name, 1, 50) || given.size() == 300) {
            return false;
        }
        return given.add(new int[] {plant, name, now});
    }

    private Map<Integer, Integer> tiesAsOf(int day) {
        Map<Integer, Integer> to = new HashMap<>();
        for (int[] t : ties) {
            if (t[2] <= day) {
                to.put(t[0], t[1]);
            }
        }
        to.values().removeIf(v -> v == 0);
        return to;
    }

    boolean join(int name, int to) {
        if (out(name, 1, 50) || out(to, 0, 50) || name == to || ties.size() == 100) {
            return false;
        }
        Map<Integer, Integer> tied = tiesAsOf(now);
        for (Integer at = to; at != null; at = tied.get(at)) {
            if (at == name) {
                return false;
            }
        }
        return ties.add(new int[] {name, to, now});
    }

    private int nameOf(int plant, int day, int tieDay) {
        int name = 0;
        for (int[] g : given) {
            if (g[0] == plant && g[2] <= day) {
                name = g[1];
            }
        }
        Map<Integer, Integer> tied = tiesAsOf(tieDay);
        while (tied.containsKey(name)) {
            name = tied.get(name);
        }
        return name;
    }

    int named(int plant, int day, int what) {
        if (no(plant) || out(day, 0, now) || out(what, 0, 1)) {
            throw new NoSuchElementException();
        }
        return nameOf(plant, day, what == 0 ? day : now);
    }

    int bed(int light, int wet, int room) {
        if (out(light, 0, 9) || out(wet, 0, 9) || out(room, 1, 40) || beds.size() == 8) {
            return -1;
        }
        beds.add(new int[] {light, wet, room});
        return beds.size() - 1;
    }

    boolean change(int bed, int light, int wet) {
        if (out(bed, 0, beds.size() - 1) || out(light, 0, 9) || out(wet, 0, 9)) {
            return false;
        }
        beds.get(bed)[0] = light;
        beds.get(bed)[1] = wet;
        return true;
    }

    boolean needs(int plant, int a, int b, int c, int d) {
        if (no(plant) || out(a, 0, 9) || out(b, a, 9) || out(c, 0, 9) || out(d, c, 9)) {
            return false;
        }
        plants.get(plant).needs = new int[] {a, b, c, d};
        return true;
    }

    private boolean suits(P p, int[] bed) {
        return !out(bed[0], p.needs[0], p.needs[1]) && !out(bed[1], p.needs[2], p.needs[3]);
    }

    boolean lay(int plant, int bed) {
        if (no(plant) || out(bed, -1, beds.size() - 1)) {
            return false;
        }
        P p = plants.get(plant);
        if (bed >= 0) {
            long others = plants.stream().filter(q -> q != p && q.bed == bed).count();
            if (!suits(p, beds.get(bed)) || others >= beds.get(bed)[2]) {
                return false;
            }
        }
        p.bed = bed;
        p.told = 0;
        return true;
    }

    /** How many ways of filling there would be to look at in moves(). */
    double fillings() {
        double all = 1;
        for (int[] b : beds) {
            all *= Math.min(b[2], plants.stream().filter(p -> p.bed >= 0).count()) + 1;
        }
        return all;
    }

    /** Plant by plant, the cheapest way to each filling of the beds that can be. */
    int moves() {
        Map<List<Integer>, Integer> best = new HashMap<>();
        best.put(new ArrayList<>(java.util.Collections.nCopies(beds.size(), 0)), 0);
        for (P p : plants) {
            if (p.bed < 0) {
                continue;
            }
            Map<List<Integer>, Integer> then = new HashMap<>();
            best.forEach((filling, cost) -> {
                for (int b = 0; b < beds.size(); b++) {
                    if (suits(p, beds.get(b)) && filling.get(b) < beds.get(b)[2]) {
                        List<Integer> next = new ArrayList<>(filling);
                        next.set(b, next.get(b) + 1);
                        then.merge(next, cost + (b == p.bed ? 0 : 1), Math::min);
                    }
                }
            });
            best = then;
        }
        return best.values().stream().mapToInt(v -> v).min().orElse(-1);
    }

    int feed(long a, long b, long c) {
        for (long x : new long[] {a, b, c}) {
            for (byte sign : java.nio.ByteBuffer.allocate(8).putLong(x).array()) {
                if ((sign == 10 || (sign >= 32 && sign <= 126)) && tape.length() < 600) {
                    tape += (char) sign;
                }
            }
        }
        return tape.length();
    }

    // ---- texts: tokens by a pattern, a tree of values

    interface Value {
        int of(Map<String, Integer> facts);
    }

    private static final class Line {
        boolean lets;
        Value e;
    }

    private static final class Wrong extends Exception {
        private static final long serialVersionUID = 1;
        final int fault;

        Wrong(int kind, int place) {
            fault = kind + 16 * place;
        }
    }

    private static final Pattern TOKEN = Pattern.compile("[a-z]+|[0-9]+|[^a-z0-9 \n]");

    private final List<String> words = new ArrayList<>();
    private final List<Integer> places = new ArrayList<>();
    private int at;

    int text() {
        String signs = tape;
        tape = "";
        words.clear();
        places.clear();
        at = 0;
        Matcher m = TOKEN.matcher(signs);
        while (m.find()) {
            words.add(m.group());
            places.add(m.start());
        }
        words.add("END");
        places.add(signs.length());
        try {
            List<Line> read = new ArrayList<>();
            while (!words.get(at).equals("END")) {
                Line line = new Line();
                if (!words.get(at).equals("let") && !words.get(at).equals("bar")) {
                    throw new Wrong(1, places.get(at));
                }
                if (read.size() == 16) {
                    throw new Wrong(5, places.get(at));
                }
                line.lets = words.get(at++).equals("let");
                want("when");
                line.e = all(0);
                want(";");
                read.add(line);
            }
            lines = read;
            return 0;
        } catch (Wrong w) {
            return w.fault;
        }
    }

    private void want(String word) throws Wrong {
        if (!words.get(at).equals(word)) {
            throw new Wrong(1, places.get(at));
        }
        at++;
    }

    private Value all(int within) throws Wrong {
        Value left = test(within);
        while (words.get(at).equals("and")) {
            at++;
            Value a = left;
            Value b = test(within);
            left = f -> a.of(f) != 0 && b.of(f) != 0 ? 1 : 0;
        }
        return left;
    }

    private Value test(int within) throws Wrong {
        Value a = sum(within);
        String sign = words.get(at);
        if (!sign.equals("<") && !sign.equals("=")) {
            return a;
        }
        at++;
        Value b = sum(within);
        return sign.equals("<") ? f -> a.of(f) < b.of(f) ? 1 : 0 : f -> a.of(f) == b.of(f) ? 1 : 0;
    }

    private Value sum(int within) throws Wrong {
        Value left = part(within);
        while (words.get(at).equals("+") || words.get(at).equals("-")) {
            int sign = words.get(at++).equals("+") ? 1 : -1;
            Value a = left;
            Value b = part(within);
            left = f -> a.of(f) + sign * b.of(f);
        }
        return left;
    }

    private static final List<String> FACTS = List.of("place", "name", "house", "aim", "cut", "pieces", "day");

    private Value part(int within) throws Wrong {
        String word = words.get(at);
        boolean number = word.matches("[0-9]{1,4}");
        if (!number && !FACTS.contains(word) && !word.equals("(")) {
            throw new Wrong(1, places.get(at));
        }
        if (within == 5) {
            throw new Wrong(5, places.get(at));
        }
        at++;
        if (word.equals("(")) {
            Value inner = all(within + 1);
            want(")");
            return inner;
        }
        return number ? f -> Integer.parseInt(word) : f -> f.get(word);
    }

    int may(int plant, int house, int aim) {
        if (no(plant) || out(house, 0, 99) || out(aim, 0, 9)) {
            return -1;
        }
        Map<String, Integer> facts = new HashMap<>();
        facts.put("place", plants.get(root(plant)).place);
        facts.put("name", nameOf(plant, now, now));
        facts.put("house", house);
        facts.put("aim", aim);
        facts.put("cut", isCut(plant) ? 1 : 0);
        facts.put("pieces", plants.get(plant).pieces);
        facts.put("day", now);
        for (Line line : lines) {
            if (line.e.of(facts) != 0) {
                return line.lets ? 1 : 0;
            }
        }
        return 0;
    }

    boolean send(int plant, int house, int aim) {
        if (may(plant, house, aim) != 1 || plants.get(plant).pieces == 0 || sent.size() == 100) {
            return false;
        }
        plants.get(plant).pieces--;
        return sent.add(new int[] {plant, house, aim, now});
    }

    int sent(int i, int what) {
        return out(i, 0, sent.size() - 1) || out(what, 0, 3) ? -1 : sent.get(i)[what];
    }

    boolean seen(int plant, int pieces) {
        if (no(plant) || out(pieces, 1, 100) || plants.get(plant).bed < 0) {
            return false;
        }
        plants.get(plant).told = pieces;
        return true;
    }

    int close(int bed) {
        if (out(bed, 0, beds.size() - 1)) {
            return -1;
        }
        int before = count(6);
        int revived = 0;
        for (P p : plants) {
            if (p.bed != bed) {
                continue;
            }
            if (p.told == 0) {
                p.missed++;
                p.dead = p.missed >= 2;
            } else {
                revived += p.dead ? 1 : 0;
                p.missed = 0;
                p.dead = false;
                p.pieces = p.told;
                p.told = 0;
            }
        }
        return count(6) - before + revived;
    }

    private int root(int plant) {
        int at = plant;
        while (plants.get(at).kind != 0) {
            at = plants.get(at).of;
        }
        return at;
    }

    private boolean isCut(int plant) {
        P p = plants.get(plant);
        return p.kind == 2 || (p.kind == 3 && isCut(p.of));
    }

    private static boolean has(int[] two, int x) {
        return two[0] == x || two[1] == x;
    }

    private boolean fit(int[][] marks, P as) {
        for (int row = 0; row < 4 && as.kind != 0; row++) {
            int[] m = marks[row];
            int[] of = plants.get(as.of).marks[row];
            boolean right;
            if (as.kind != 1) {
                right = Arrays.equals(m, of);
            } else if (as.father < 0) {
                right = has(of, m[0]) || has(of, m[1]);
            } else {
                int[] father = plants.get(as.father).marks[row];
                right = (has(of, m[0]) && has(father, m[1])) || (has(of, m[1]) && has(father, m[0]));
            }
            if (!right) {
                return false;
            }
        }
        return true;
    }

    int fits(int plant) {
        return no(plant) ? -1 : fit(plants.get(plant).marks, plants.get(plant)) ? 1 : 0;
    }

    int changed(int a, int b) {
        if (no(a) || no(b) || a == b) {
            return -1;
        }
        P p = plants.get(a);
        P q = plants.get(b);
        return !fit(p.marks, p) && !fit(q.marks, q) && fit(p.marks, q) && fit(q.marks, p) ? 1 : 0;
    }

    int look(int plant, int what) {
        if (no(plant) || out(what, 0, 17)) {
            throw new NoSuchElementException();
        }
        P p = plants.get(plant);
        int[] all = {p.kind, p.of, p.father, p.pieces, plants.get(root(plant)).place, root(plant), isCut(plant) ? 1 : 0,
            p.bed, p.missed, p.dead ? 1 : 0};
        return what < 10 ? all[what] : p.marks[(what - 10) / 2][what % 2];
    }

    int count(int what) {
        if (out(what, 0, 9)) {
            return -1;
        }
        int dead = (int) plants.stream().filter(p -> p.dead).count();
        int lying = (int) plants.stream().filter(p -> p.bed >= 0).count();
        int[] all = {plants.size(), now, beds.size(), given.size(), ties.size(), sent.size(), dead, lines.size(),
            tape.length(), lying};
        return all[what];
    }
}
