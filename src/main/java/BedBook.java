import java.util.NoSuchElementException;

/**
 * The book of a botanic garden: plants and where they come from, their names, the beds they lie in,
 * the text that says what may be sent, the checks of beds, and marks that tell changed labels.
 */
public final class BedBook {
    public static final int NONE = -1;

    private static final int LAST_DAY = 9999;
    private static final int MOST_DAYS_AT_ONCE = 1000;
    private static final int MOST_PLANTS = 40;
    private static final int MOST_PIECES = 100;
    private static final int LAST_PLACE = 99;
    private static final int LAST_NAME = 50;
    private static final int MOST_BEDS = 8;
    private static final int LAST_HOUSE = 99;
    private static final int LAST_AIM = 9;
    private static final int LAST_DIGIT = 9;
    private static final int MARK_ROWS = 4;
    private static final int MISSES_OF_THE_DEAD = 2;
    private static final int FIRST_MARK_LOOK = 10;
    private static final int MOST_SIGNS = 600;
    private static final int MOST_LINES = 16;
    private static final int MOST_WITHIN = 5;

    private static final int WILD = 0;
    private static final int SEED = 1;
    private static final int CUTTING = 2;
    private static final int SPLIT = 3;

    // Kinds of TOKENS, and the codes of Rules too: the facts come first, and those up to OPEN can begin a PART.
    private static final int PLACE_FACT = 0;
    private static final int NAME_FACT = 1;
    private static final int HOUSE_FACT = 2;
    private static final int AIM_FACT = 3;
    private static final int CUT_FACT = 4;
    private static final int PIECES_FACT = 5;
    private static final int DAY_FACT = 6;
    private static final int FACTS = 7;
    private static final int NUMBER_TOKEN = 7;
    private static final int OPEN = 8;
    private static final int SHUT = 9;
    private static final int LESS = 10;
    private static final int EQUAL = 11;
    private static final int PLUS = 12;
    private static final int MINUS = 13;
    private static final int AND = 14;
    private static final int SEMICOLON = 15;
    private static final int LET = 16;
    private static final int BAR = 17;
    private static final int WHEN = 18;
    private static final int END = 19;
    private static final int NO_TOKEN = 20;

    private final Plant[] plants;
    private final Bed[] beds;
    private final NameBook nameBook;
    private final MovePlan movePlan;
    private final Tape tape;
    private final Reader reader;
    private final SendLog sendLog;
    private final int[] facts;
    private Rules rules;
    private int plantCount;
    private int bedCount;
    private int now;

    public BedBook() {
        plants = new Plant[MOST_PLANTS];
        beds = new Bed[MOST_BEDS];
        nameBook = new NameBook();
        movePlan = new MovePlan();
        tape = new Tape();
        reader = new Reader();
        sendLog = new SendLog();
        facts = new int[FACTS];
        rules = new Rules();
    }

    // ---- days and plants

    public int days(int n) {
        if (!within(n, 0, MOST_DAYS_AT_ONCE) || now + n > LAST_DAY) {
            return NONE;
        }
        now += n;
        return now;
    }

    public int wild(int place, int pieces) {
        if (!within(place, 0, LAST_PLACE) || !canEnter(pieces)) {
            return NONE;
        }
        return enter(new Plant(plantCount, place, pieces));
    }

    public int seed(int mother, int father, int pieces) {
        Plant motherPlant = plantAt(mother);
        Plant fatherPlant = plantAt(father);
        if (motherPlant == null || (fatherPlant == null && father != NONE) || !canEnter(pieces)) {
            return NONE;
        }
        return enter(new Plant(plantCount, SEED, motherPlant, fatherPlant, pieces));
    }

    public int cut(int of, int pieces) {
        Plant parent = plantAt(of);
        if (parent == null || !canEnter(pieces)) {
            return NONE;
        }
        return enter(new Plant(plantCount, CUTTING, parent, null, pieces));
    }

    public int split(int of, int pieces) {
        Plant parent = plantAt(of);
        if (parent == null || !canEnter(pieces) || pieces >= parent.pieces) {
            return NONE;
        }
        parent.pieces -= pieces;
        return enter(new Plant(plantCount, SPLIT, parent, null, pieces));
    }

    public boolean mark(int plant, int row, int a, int b) {
        Plant p = plantAt(plant);
        if (p == null || !within(row, 0, MARK_ROWS - 1) || !isDigit(a) || !isDigit(b)) {
            return false;
        }
        p.setMarks(row, Math.min(a, b), Math.max(a, b));
        return true;
    }

    // ---- names

    public boolean name(int plant, int name) {
        if (plantAt(plant) == null || !within(name, 1, LAST_NAME)) {
            return false;
        }
        return nameBook.give(plant, name, now);
    }

    public boolean join(int name, int to) {
        if (!within(name, 1, LAST_NAME) || !within(to, 0, LAST_NAME)) {
            return false;
        }
        return nameBook.tie(name, to, now);
    }

    public int named(int plant, int day, int what) throws NoSuchElementException {
        if (plantAt(plant) == null || !within(day, 0, now) || !within(what, 0, 1)) {
            throw new NoSuchElementException("no such plant, day or kind of name");
        }
        return nameBook.nameOf(plant, day, what == 0 ? day : now);
    }

    // ---- beds

    public int bed(int light, int wet, int room) {
        if (!isDigit(light) || !isDigit(wet) || !within(room, 1, MOST_PLANTS) || bedCount >= MOST_BEDS) {
            return NONE;
        }
        beds[bedCount] = new Bed(light, wet, room);
        bedCount++;
        return bedCount - 1;
    }

    public boolean change(int bed, int light, int wet) {
        Bed b = bedAt(bed);
        if (b == null || !isDigit(light) || !isDigit(wet)) {
            return false;
        }
        b.light = light;
        b.wet = wet;
        return true;
    }

    public boolean needs(int plant, int lightFrom, int lightTo, int wetFrom, int wetTo) {
        Plant p = plantAt(plant);
        if (p == null || !isSpan(lightFrom, lightTo) || !isSpan(wetFrom, wetTo)) {
            return false;
        }
        p.lightFrom = lightFrom;
        p.lightTo = lightTo;
        p.wetFrom = wetFrom;
        p.wetTo = wetTo;
        return true;
    }

    public boolean lay(int plant, int bed) {
        Plant p = plantAt(plant);
        if (p == null || (bed != NONE && !hasPlaceFor(p, bed))) {
            return false;
        }
        p.bed = bed;
        p.toldPieces = 0;
        return true;
    }

    public int moves() {
        movePlan.makeEmpty();
        for (int b = 0; b < bedCount; b++) {
            movePlan.addBed(beds[b].room);
        }
        for (int p = 0; p < plantCount; p++) {
            if (plants[p].bed != NONE) {
                movePlan.addPlant(plants[p], beds);
            }
        }
        return movePlan.fewest();
    }

    // ---- texts and what is sent

    public int feed(long a, long b, long c) {
        tape.takeBytes(a);
        tape.takeBytes(b);
        tape.takeBytes(c);
        return tape.length;
    }

    public int text() {
        int fault = reader.readText(tape);
        tape.length = 0;
        if (fault == 0) {
            rules = reader.exchangeDraft(rules);
        }
        return fault;
    }

    public int may(int plant, int house, int aim) {
        Plant p = plantAt(plant);
        if (p == null || !within(house, 0, LAST_HOUSE) || !within(aim, 0, LAST_AIM)) {
            return NONE;
        }
        facts[PLACE_FACT] = p.place;
        facts[NAME_FACT] = nameBook.nameOf(plant, now, now);
        facts[HOUSE_FACT] = house;
        facts[AIM_FACT] = aim;
        facts[CUT_FACT] = p.isCut ? 1 : 0;
        facts[PIECES_FACT] = p.pieces;
        facts[DAY_FACT] = now;
        return rules.permit(facts) ? 1 : 0;
    }

    public boolean send(int plant, int house, int aim) {
        Plant p = plantAt(plant);
        if (p == null || p.pieces < 1 || may(plant, house, aim) != 1) {
            return false;
        }
        if (!sendLog.write(plant, house, aim, now)) {
            return false;
        }
        p.pieces--;
        return true;
    }

    public int sent(int i, int what) {
        return sendLog.entry(i, what);
    }

    // ---- checks

    public boolean seen(int plant, int pieces) {
        Plant p = plantAt(plant);
        if (p == null || p.bed == NONE || !within(pieces, 1, MOST_PIECES)) {
            return false;
        }
        p.toldPieces = pieces;
        return true;
    }

    public int close(int bed) {
        if (bedAt(bed) == null) {
            return NONE;
        }
        int died = 0;
        for (int i = 0; i < plantCount; i++) {
            if (plants[i].bed == bed && plants[i].diesByCheck()) {
                died++;
            }
        }
        return died;
    }

    // ---- marks

    public int fits(int plant) {
        Plant p = plantAt(plant);
        if (p == null) {
            return NONE;
        }
        return p.fitsOriginOf(p) ? 1 : 0;
    }

    public int changed(int a, int b) {
        Plant p = plantAt(a);
        Plant q = plantAt(b);
        if (p == null || q == null || a == b) {
            return NONE;
        }
        boolean bothWrong = !p.fitsOriginOf(p) && !q.fitsOriginOf(q);
        return bothWrong && p.fitsOriginOf(q) && q.fitsOriginOf(p) ? 1 : 0;
    }

    // ---- looking and counting

    public int look(int plant, int what) throws NoSuchElementException {
        Plant p = plantAt(plant);
        if (p == null || !within(what, 0, FIRST_MARK_LOOK + 2 * MARK_ROWS - 1)) {
            throw new NoSuchElementException("no such plant or thing to look at");
        }
        if (what >= FIRST_MARK_LOOK) {
            return p.marks[what - FIRST_MARK_LOOK];
        }
        return what <= 4 ? lookAtOrigin(p, what) : lookAtState(p, what);
    }

    public int count(int what) {
        switch (what) {
            case 0: return plantCount;
            case 1: return now;
            case 2: return bedCount;
            case 3: return nameBook.givenCount;
            case 4: return nameBook.tieCount;
            case 5: return sendLog.length;
            case 6: return countDead();
            case 7: return rules.lines;
            case 8: return tape.length;
            case 9: return countLying();
            default: return NONE;
        }
    }

    private static int lookAtOrigin(Plant p, int what) {
        switch (what) {
            case 0: return p.kind;
            case 1: return numberOf(p.parent);
            case 2: return numberOf(p.father);
            case 3: return p.pieces;
            default: return p.place;
        }
    }

    private static int lookAtState(Plant p, int what) {
        switch (what) {
            case 5: return p.root;
            case 6: return p.isCut ? 1 : 0;
            case 7: return p.bed;
            case 8: return p.missed;
            default: return p.isDead ? 1 : 0;
        }
    }

    private static int numberOf(Plant p) {
        return p == null ? NONE : p.number;
    }

    private int countDead() {
        int dead = 0;
        for (int i = 0; i < plantCount; i++) {
            if (plants[i].isDead) {
                dead++;
            }
        }
        return dead;
    }

    private int countLying() {
        int lying = 0;
        for (int i = 0; i < plantCount; i++) {
            if (plants[i].bed != NONE) {
                lying++;
            }
        }
        return lying;
    }

    private static boolean within(int x, int from, int to) {
        return x >= from && x <= to;
    }

    private static boolean isDigit(int x) {
        return within(x, 0, LAST_DIGIT);
    }

    private static boolean isSpan(int from, int to) {
        return isDigit(from) && isDigit(to) && from <= to;
    }

    private Plant plantAt(int number) {
        return within(number, 0, plantCount - 1) ? plants[number] : null;
    }

    private Bed bedAt(int number) {
        return within(number, 0, bedCount - 1) ? beds[number] : null;
    }

    private boolean canEnter(int pieces) {
        return within(pieces, 1, MOST_PIECES) && plantCount < MOST_PLANTS;
    }

    private int enter(Plant p) {
        plants[plantCount] = p;
        plantCount++;
        return p.number;
    }

    private boolean hasPlaceFor(Plant p, int bed) {
        Bed b = bedAt(bed);
        if (b == null || !p.suits(b)) {
            return false;
        }
        int others = 0;
        for (int i = 0; i < plantCount; i++) {
            // a plant that lies there already takes no place from itself
            if (plants[i].bed == bed && i != p.number) {
                others++;
            }
        }
        return others < b.room;
    }

    /** One PLANT with all that is told of it, but for its names. */
    private static final class Plant {
        final int number;
        final int kind;
        final Plant parent;
        final Plant father;
        final int root;
        final int place;
        final boolean isCut;
        final int[] marks = new int[2 * MARK_ROWS];
        int pieces;
        int lightFrom;
        int lightTo = LAST_DIGIT;
        int wetFrom;
        int wetTo = LAST_DIGIT;
        int bed = NONE;
        int missed;
        boolean isDead;
        /** The pieces told in the open check; 0 while it was not told seen. */
        int toldPieces;

        Plant(int number, int place, int pieces) {
            this.number = number;
            this.kind = WILD;
            this.parent = null;
            this.father = null;
            this.root = number;
            this.place = place;
            this.isCut = false;
            this.pieces = pieces;
        }

        Plant(int number, int kind, Plant parent, Plant father, int pieces) {
            this.number = number;
            this.kind = kind;
            this.parent = parent;
            this.father = father;
            this.root = parent.root;
            this.place = parent.place;
            this.isCut = kind == CUTTING || (kind == SPLIT && parent.isCut);
            this.pieces = pieces;
            if (kind != SEED) {
                System.arraycopy(parent.marks, 0, marks, 0, marks.length);
            }
        }

        void setMarks(int row, int lesser, int greater) {
            marks[2 * row] = lesser;
            marks[2 * row + 1] = greater;
        }

        boolean suits(Bed b) {
            return within(b.light, lightFrom, lightTo) && within(b.wet, wetFrom, wetTo);
        }

        /** Takes what the check told; whether the PLANT became DEAD by it. */
        boolean diesByCheck() {
            boolean wasDead = isDead;
            if (toldPieces > 0) {
                missed = 0;
                pieces = toldPieces;
                toldPieces = 0;
            } else {
                missed++;
            }
            isDead = missed >= MISSES_OF_THE_DEAD;
            return isDead && !wasDead;
        }

        /** Whether the MARKS of this PLANT FIT what the other one is of, in the other one's way of coming to be. */
        boolean fitsOriginOf(Plant other) {
            if (other.parent == null) {
                return true;
            }
            for (int row = 0; row < MARK_ROWS; row++) {
                boolean right = other.kind == SEED
                        ? fitsParents(row, other.parent, other.father)
                        : sameMarks(row, other.parent);
                if (!right) {
                    return false;
                }
            }
            return true;
        }

        private boolean sameMarks(int row, Plant parent) {
            return marks[2 * row] == parent.marks[2 * row] && marks[2 * row + 1] == parent.marks[2 * row + 1];
        }

        private boolean fitsParents(int row, Plant mother, Plant father) {
            int a = marks[2 * row];
            int b = marks[2 * row + 1];
            if (father == null) {
                return mother.bears(row, a) || mother.bears(row, b);
            }
            return (mother.bears(row, a) && father.bears(row, b)) || (mother.bears(row, b) && father.bears(row, a));
        }

        private boolean bears(int row, int number) {
            return marks[2 * row] == number || marks[2 * row + 1] == number;
        }
    }

    /** One BED. */
    private static final class Bed {
        int light;
        int wet;
        final int room;

        Bed(int light, int wet, int room) {
            this.light = light;
            this.wet = wet;
            this.room = room;
        }
    }

    /** What was told of NAMES, in the order told: days never go back, so a later entry is of a later or the same day. */
    private static final class NameBook {
        private static final int MOST_GIVEN = 300;
        private static final int MOST_TIES = 100;

        private final int[] givenPlant = new int[MOST_GIVEN];
        private final int[] givenName = new int[MOST_GIVEN];
        private final int[] givenDay = new int[MOST_GIVEN];
        private final int[] tieName = new int[MOST_TIES];
        private final int[] tieTo = new int[MOST_TIES];
        private final int[] tieDay = new int[MOST_TIES];
        int givenCount;
        int tieCount;

        boolean give(int plant, int name, int day) {
            if (givenCount >= MOST_GIVEN) {
                return false;
            }
            givenPlant[givenCount] = plant;
            givenName[givenCount] = name;
            givenDay[givenCount] = day;
            givenCount++;
            return true;
        }

        /** JOINS a NAME to another one, or PARTS it (to 0). */
        boolean tie(int name, int to, int day) {
            if (tieCount >= MOST_TIES || leadsTo(to, name, day)) {
                return false;
            }
            tieName[tieCount] = name;
            tieTo[tieCount] = to;
            tieDay[tieCount] = day;
            tieCount++;
            return true;
        }

        /** The NAME given to a PLANT as of givenBy, followed by JOINS as of joinedBy; 0 if none was given. */
        int nameOf(int plant, int givenBy, int joinedBy) {
            int name = givenAsOf(plant, givenBy);
            // JOINS as of any day never lead round, so LAST_NAME steps reach the end of every chain
            for (int step = 0; step < LAST_NAME; step++) {
                int to = tiedAsOf(name, joinedBy);
                if (to == 0) {
                    return name;
                }
                name = to;
            }
            return name;
        }

        private boolean leadsTo(int from, int goal, int day) {
            int name = from;
            for (int step = 0; step < LAST_NAME && name != 0; step++) {
                if (name == goal) {
                    return true;
                }
                name = tiedAsOf(name, day);
            }
            return false;
        }

        private int givenAsOf(int plant, int day) {
            for (int i = givenCount - 1; i >= 0; i--) {
                if (givenPlant[i] == plant && givenDay[i] <= day) {
                    return givenName[i];
                }
            }
            return 0;
        }

        private int tiedAsOf(int name, int day) {
            for (int i = tieCount - 1; i >= 0; i--) {
                if (tieName[i] == name && tieDay[i] <= day) {
                    return tieTo[i];
                }
            }
            return 0;
        }
    }

    /**
     * Finds MOVES. All that suit their own BED stay at first, which costs nothing; then each other one is brought in by
     * the cheapest chain of shifts to a BED with room. So what is planned is always the cheapest for those brought in.
     */
    private static final class MovePlan {
        private static final int TOO_DEAR = 1000;

        /** For each PLANT what each BED costs: nothing if it is its own, TOO_DEAR where the PLANT does not suit. */
        private final int[] prices = new int[MOST_PLANTS * MOST_BEDS];
        private final int[] planned = new int[MOST_PLANTS];
        private final int[] roomLeft = new int[MOST_BEDS];
        private final int[] cost = new int[MOST_BEDS];
        /** The PLANT that would come into a BED at that cost. */
        private final int[] comer = new int[MOST_BEDS];
        private int plantCount;
        private int bedCount;

        void makeEmpty() {
            plantCount = 0;
            bedCount = 0;
        }

        void addBed(int room) {
            if (bedCount < MOST_BEDS) {
                roomLeft[bedCount] = room;
                bedCount++;
            }
        }

        /** Adds a PLANT that lies, behind all BEDS; it stays where it lies if it suits that. */
        void addPlant(Plant plant, Bed[] beds) {
            if (plantCount >= MOST_PLANTS) {
                return;
            }
            planned[plantCount] = NONE;
            for (int b = 0; b < bedCount; b++) {
                boolean suits = plant.suits(beds[b]);
                boolean stays = suits && plant.bed == b;
                prices[plantCount * MOST_BEDS + b] = stays ? 0 : suits ? 1 : TOO_DEAR;
                if (stays) {
                    planned[plantCount] = b;
                    roomLeft[b]--;
                }
            }
            plantCount++;
        }

        int fewest() {
            for (int p = 0; p < plantCount; p++) {
                if (planned[p] == NONE && !bringIn(p)) {
                    return NONE;
                }
            }
            int moved = 0;
            for (int p = 0; p < plantCount; p++) {
                moved += price(p, planned[p]);
            }
            return moved;
        }

        private boolean bringIn(int newcomer) {
            for (int b = 0; b < bedCount; b++) {
                cost[b] = price(newcomer, b);
                comer[b] = newcomer;
            }
            spreadCosts();
            int last = cheapestWithRoom();
            if (last == NONE) {
                return false;
            }
            roomLeft[last]--;
            shiftAlong(last);
            return true;
        }

        private void spreadCosts() {
            boolean cheaper = true;
            for (int round = 0; round < bedCount && cheaper; round++) {
                cheaper = false;
                for (int p = 0; p < plantCount; p++) {
                    if (planned[p] != NONE && spreadFrom(p)) {
                        cheaper = true;
                    }
                }
            }
        }

        /** Whether some BED is reached more cheaply when this PLANT gives way there from where it is planned. */
        private boolean spreadFrom(int p) {
            int from = planned[p];
            if (cost[from] >= TOO_DEAR) {
                return false;
            }
            boolean cheaper = false;
            int base = cost[from] - price(p, from);
            for (int b = 0; b < bedCount; b++) {
                int there = price(p, b);
                if (there < TOO_DEAR && base + there < cost[b]) {
                    cost[b] = base + there;
                    comer[b] = p;
                    cheaper = true;
                }
            }
            return cheaper;
        }

        private int cheapestWithRoom() {
            int best = NONE;
            for (int b = 0; b < bedCount; b++) {
                if (roomLeft[b] > 0 && cost[b] < TOO_DEAR && (best == NONE || cost[b] < cost[best])) {
                    best = b;
                }
            }
            return best;
        }

        /** Shifts the chain that ends in the BED last; its first PLANT, the newcomer, was planned nowhere. */
        private void shiftAlong(int last) {
            int into = last;
            for (int step = 0; step < bedCount && into != NONE; step++) {
                int mover = comer[into];
                int from = planned[mover];
                planned[mover] = into;
                into = from;
            }
        }

        private int price(int p, int bed) {
            return prices[p * MOST_BEDS + bed];
        }
    }

    /** The TAPE. */
    private static final class Tape {
        private static final int NEWLINE = 10;
        private static final int FIRST_SIGN = 32;
        private static final int LAST_SIGN = 126;

        final int[] signs = new int[MOST_SIGNS];
        int length;

        void takeBytes(long bytes) {
            for (int shift = 56; shift >= 0; shift -= 8) {
                int sign = (int) (bytes >>> shift) & 255;
                boolean right = sign == NEWLINE || within(sign, FIRST_SIGN, LAST_SIGN);
                if (right && length < MOST_SIGNS) {
                    signs[length] = sign;
                    length++;
                }
            }
        }

        int endOfBlanks(int from) {
            int end = from;
            while (end < length && (signs[end] == NEWLINE || signs[end] == ' ')) {
                end++;
            }
            return end;
        }

        int endOfLetters(int from) {
            int end = from;
            while (end < length && within(signs[end], 'a', 'z')) {
                end++;
            }
            return end;
        }

        int endOfDigits(int from) {
            int end = from;
            while (end < length && within(signs[end], '0', '9')) {
                end++;
            }
            return end;
        }

        int numberIn(int from, int end) {
            int number = 0;
            for (int i = from; i < end; i++) {
                number = number * 10 + (signs[i] - '0');
            }
            return number;
        }

        boolean spells(String word, int from, int end) {
            if (end - from != word.length()) {
                return false;
            }
            for (int i = from; i < end; i++) {
                if (signs[i] != word.charAt(i - from)) {
                    return false;
                }
            }
            return true;
        }
    }

    /** A TEXT that was read: for each line whether it lets, and its E as codes, values ahead of what joins them. */
    private static final class Rules {
        // three values wait at most for each E that others stand around, and four in the innermost
        private static final int MOST_WAITING = 4 * (MOST_WITHIN + 1);

        private final int[] codes = new int[MOST_SIGNS];
        private final int[] numbers = new int[MOST_SIGNS];
        private final int[] ends = new int[MOST_LINES];
        private final boolean[] lets = new boolean[MOST_LINES];
        private final int[] waiting = new int[MOST_WAITING];
        private int waitingCount;
        private int length;
        int lines;

        void makeEmpty() {
            length = 0;
            lines = 0;
        }

        void addCode(int code, int number) {
            if (length < MOST_SIGNS) {
                codes[length] = code;
                numbers[length] = number;
                length++;
            }
        }

        void endLine(boolean letting) {
            if (lines < MOST_LINES) {
                ends[lines] = length;
                lets[lines] = letting;
                lines++;
            }
        }

        /** Whether the first line whose E is not 0 lets. */
        boolean permit(int[] facts) {
            int from = 0;
            for (int line = 0; line < lines; line++) {
                if (valueOf(from, ends[line], facts) != 0) {
                    return lets[line];
                }
                from = ends[line];
            }
            return false;
        }

        private int valueOf(int from, int to, int[] facts) {
            waitingCount = 0;
            for (int i = from; i < to; i++) {
                if (codes[i] < FACTS) {
                    push(facts[codes[i]]);
                } else if (codes[i] == NUMBER_TOKEN) {
                    push(numbers[i]);
                } else {
                    int right = pop();
                    int left = pop();
                    push(joined(codes[i], left, right));
                }
            }
            return pop();
        }

        private void push(int value) {
            if (waitingCount < MOST_WAITING) {
                waiting[waitingCount] = value;
                waitingCount++;
            }
        }

        private int pop() {
            if (waitingCount < 1) {
                return 0;
            }
            waitingCount--;
            return waiting[waitingCount];
        }

        private static int joined(int code, int left, int right) {
            switch (code) {
                case PLUS: return left + right;
                case MINUS: return left - right;
                case LESS: return left < right ? 1 : 0;
                case EQUAL: return left == right ? 1 : 0;
                default: return left != 0 && right != 0 ? 1 : 0;
            }
        }
    }

    /** The TOKENS of a TAPE, from the left; the last one is the end. */
    private static final class Tokens {
        private static final int MOST_TOKENS = MOST_SIGNS + 1;
        private static final int LONGEST_WORD = 8;
        private static final int LONGEST_NUMBER = 4;

        final int[] kinds = new int[MOST_TOKENS];
        final int[] starts = new int[MOST_TOKENS];
        final int[] numbers = new int[MOST_TOKENS];
        private int length;

        void scan(Tape tape) {
            length = 0;
            int at = tape.endOfBlanks(0);
            for (int more = 0; more < MOST_SIGNS && at < tape.length; more++) {
                at = tape.endOfBlanks(scanOne(tape, at));
            }
            add(END, at, 0);
        }

        /** Adds the TOKEN that begins there; the place behind it. */
        private int scanOne(Tape tape, int from) {
            int end = tape.endOfLetters(from);
            if (end > from) {
                add(end - from > LONGEST_WORD ? NO_TOKEN : kindOfWord(tape, from, end), from, 0);
                return end;
            }
            end = tape.endOfDigits(from);
            if (end > from) {
                boolean right = end - from <= LONGEST_NUMBER;
                add(right ? NUMBER_TOKEN : NO_TOKEN, from, right ? tape.numberIn(from, end) : 0);
                return end;
            }
            add(kindOfSign(tape.signs[from]), from, 0);
            return from + 1;
        }

        private void add(int kind, int start, int number) {
            if (length < MOST_TOKENS) {
                kinds[length] = kind;
                starts[length] = start;
                numbers[length] = number;
                length++;
            }
        }

        private static int kindOfWord(Tape tape, int from, int end) {
            if (tape.spells("place", from, end)) return PLACE_FACT;
            if (tape.spells("name", from, end)) return NAME_FACT;
            if (tape.spells("house", from, end)) return HOUSE_FACT;
            if (tape.spells("aim", from, end)) return AIM_FACT;
            if (tape.spells("cut", from, end)) return CUT_FACT;
            if (tape.spells("pieces", from, end)) return PIECES_FACT;
            if (tape.spells("day", from, end)) return DAY_FACT;
            if (tape.spells("and", from, end)) return AND;
            if (tape.spells("let", from, end)) return LET;
            if (tape.spells("bar", from, end)) return BAR;
            if (tape.spells("when", from, end)) return WHEN;
            return NO_TOKEN;
        }

        private static int kindOfSign(int sign) {
            switch (sign) {
                case '(': return OPEN;
                case ')': return SHUT;
                case '<': return LESS;
                case '=': return EQUAL;
                case '+': return PLUS;
                case '-': return MINUS;
                case ';': return SEMICOLON;
                default: return NO_TOKEN;
            }
        }
    }

    /** Reads a TAPE as a TEXT into a draft, from the left; it stops at the first wrong TOKEN. */
    private static final class Reader {
        private static final int CANT_STAND = 1;
        private static final int TOO_MANY = 5;

        private final Tokens tokens = new Tokens();
        private Rules draft = new Rules();
        private int at;
        private int kind;
        private int fault;

        /** 0, or the FAULT. */
        int readText(Tape tape) {
            tokens.scan(tape);
            draft.makeEmpty();
            fault = 0;
            at = 0;
            kind = tokens.kinds[at];
            for (int line = 0; line < MOST_LINES && beginsLine(); line++) {
                if (!readLine()) {
                    return fault;
                }
            }
            if (beginsLine()) {
                refuse(TOO_MANY);
            } else if (kind != END) {
                refuse(CANT_STAND);
            }
            return fault;
        }

        /** Hands out what was read, for rules that are no more needed: the next draft is written in these. */
        Rules exchangeDraft(Rules old) {
            Rules done = draft;
            draft = old;
            return done;
        }

        private boolean beginsLine() {
            return kind == LET || kind == BAR;
        }

        private boolean readLine() {
            boolean letting = kind == LET;
            advance();
            if (!expect(WHEN) || !readAnds(0) || !expect(SEMICOLON)) {
                return false;
            }
            draft.endLine(letting);
            return true;
        }

        /** Reads an E; depth: how many PARTS it stands within. */
        private boolean readAnds(int depth) {
            if (!readTest(depth)) {
                return false;
            }
            for (int more = 0; more < MOST_SIGNS && kind == AND; more++) {
                advance();
                if (!readTest(depth)) {
                    return false;
                }
                draft.addCode(AND, 0);
            }
            return true;
        }

        private boolean readTest(int depth) {
            if (!readSum(depth)) {
                return false;
            }
            if (kind != LESS && kind != EQUAL) {
                return true;
            }
            int code = kind;
            advance();
            if (!readSum(depth)) {
                return false;
            }
            draft.addCode(code, 0);
            return true;
        }

        private boolean readSum(int depth) {
            if (!readPart(depth)) {
                return false;
            }
            for (int more = 0; more < MOST_SIGNS && (kind == PLUS || kind == MINUS); more++) {
                int code = kind;
                advance();
                if (!readPart(depth)) {
                    return false;
                }
                draft.addCode(code, 0);
            }
            return true;
        }

        private boolean readPart(int depth) {
            if (kind > OPEN) {
                return refuse(CANT_STAND);
            }
            if (depth >= MOST_WITHIN) {
                return refuse(TOO_MANY);
            }
            if (kind == OPEN) {
                advance();
                if (!readAnds(depth + 1)) {
                    return false;
                }
                if (kind != SHUT) {
                    return refuse(CANT_STAND);
                }
            } else {
                draft.addCode(kind, tokens.numbers[at]);
            }
            advance();
            return true;
        }

        private boolean expect(int wanted) {
            if (kind != wanted) {
                return refuse(CANT_STAND);
            }
            advance();
            return true;
        }

        /** Writes the FAULT of the TOKEN at hand; always false, as the answer of what reads. */
        private boolean refuse(int faultKind) {
            fault = faultKind + 16 * tokens.starts[at];
            return false;
        }

        private void advance() {
            // the end is the last TOKEN, and nothing goes beyond it
            if (kind != END && at + 1 < Tokens.MOST_TOKENS) {
                at++;
                kind = tokens.kinds[at];
            }
        }
    }

    /** What was SENT, in the order it was. */
    private static final class SendLog {
        private static final int MOST_SENT = 100;
        private static final int COLUMNS = 4;

        private final int[] entries = new int[COLUMNS * MOST_SENT];
        int length;

        boolean write(int plant, int house, int aim, int day) {
            if (length >= MOST_SENT) {
                return false;
            }
            int at = COLUMNS * length;
            entries[at] = plant;
            entries[at + 1] = house;
            entries[at + 2] = aim;
            entries[at + 3] = day;
            length++;
            return true;
        }

        int entry(int i, int what) {
            if (!within(i, 0, length - 1) || !within(what, 0, COLUMNS - 1)) {
                return NONE;
            }
            return entries[COLUMNS * i + what];
        }
    }
}
