/** The edges of Terms 2 and of promises 8 to 10: names given, joined, parted, and told as of a day. */
final class NameEdges {
    private static final int MIN = Integer.MIN_VALUE;
    private static final int MAX = Integer.MAX_VALUE;

    private NameEdges() {
    }

    static void run() {
        namesAre1To50();
        asOftenAsOneLikes();
        joinedAndParted();
        latestGiven();
        latestTied();
        said();
        toldNow();
        leadingBack();
        leadingBackAsOfNowAlone();
        name();
        threeHundredNames();
        join();
        hundredJoins();
        named();
        namedNoneSuch();
    }

    private static BedBook onePlant() {
        BedBook x = new BedBook();
        x.wild(1, 1);
        return x;
    }

    private static void namesAre1To50() {
        Due.about(Doc.TERMS, "NAMES are 1 to 50.");
        BedBook x = onePlant();
        int[] wrong = {MIN, -1, 0, 51, MAX};
        for (int name : wrong) {
            Due.no("name(0, " + name + ")", x.name(0, name));
            Due.no("join(" + name + ", 1)", x.join(name, 1));
            Due.is("none was given", x.named(0, 0, 0), 0);
        }
        Due.yes("name(0, 1)", x.name(0, 1));
        Due.is("1 was given", x.named(0, 0, 0), 1);
        Due.yes("name(0, 50)", x.name(0, 50));
        Due.is("50 was given", x.named(0, 0, 0), 50);
        Due.yes("join(50, 1)", x.join(50, 1));
        Due.is("50 is JOINED to 1", x.named(0, 0, 0), 1);
    }

    private static void asOftenAsOneLikes() {
        Due.about(Doc.TERMS, "A PLANT is given a NAME on the day NOW (as often as one likes).");
        BedBook x = onePlant();
        for (int i = 1; i <= 60; i++) {
            Due.yes("name(0, 5) once more", x.name(0, 5));
            Due.is("given", x.count(3), i);
        }
        x.days(1);
        Due.yes("name(0, 6)", x.name(0, 6));
        Due.yes("name(0, 5)", x.name(0, 5));
        Due.is("the last one", x.named(0, 1, 0), 5);
    }

    private static void joinedAndParted() {
        Due.about(Doc.TERMS, "A NAME is JOINED to another one from the day NOW on, or PARTED: its own again.");
        BedBook x = onePlant();
        x.name(0, 5);
        x.days(10);
        x.join(5, 6);
        x.days(10);
        x.join(5, 0);
        x.days(1);
        int[] days = {0, 9, 10, 11, 19, 20, 21};
        int[] due = {5, 5, 6, 6, 6, 5, 5};
        for (int i = 0; i < days.length; i++) {
            Due.is("SAID as of " + days[i], x.named(0, days[i], 0), due[i]);
        }
        Due.yes("PARTED once more", x.join(5, 0));
        Due.is("still its own", x.named(0, 21, 0), 5);
        Due.yes("JOINED again", x.join(5, 6));
        Due.is("JOINED again", x.named(0, 21, 0), 6);
    }

    private static void latestGiven() {
        Due.about(Doc.TERMS, "As of a day d: of what was told on days up to d the latest counts (told later on that day: the later).");
        BedBook x = onePlant();
        x.wild(1, 1);
        x.days(3);
        x.name(0, 9);
        x.name(0, 2);
        x.name(1, 30);
        x.days(2);
        x.name(0, 1);
        x.name(0, 8);
        x.name(0, 3);
        x.name(1, 31);
        x.days(1);
        int[] due = {0, 0, 0, 2, 2, 3, 3};
        int[] dueOfTheOther = {0, 0, 0, 30, 30, 31, 31};
        for (int day = 0; day <= 6; day++) {
            Due.is("given as of " + day, x.named(0, day, 0), due[day]);
            Due.is("given to the other as of " + day, x.named(1, day, 0), dueOfTheOther[day]);
        }
    }

    private static void latestTied() {
        Due.about(Doc.TERMS, "of what was told on days up to d the latest counts (told later on that day: the later).");
        BedBook x = onePlant();
        x.name(0, 1);
        x.days(3);
        x.join(1, 9);
        x.join(1, 2);
        x.days(2);
        x.join(1, 0);
        x.join(1, 7);
        x.join(1, 0);
        x.days(1);
        x.join(1, 0);
        x.join(1, 4);
        x.days(1);
        int[] due = {1, 1, 1, 2, 2, 1, 4, 4};
        for (int day = 0; day <= 7; day++) {
            Due.is("SAID as of " + day, x.named(0, day, 0), due[day]);
        }
    }

    private static void said() {
        Due.about(Doc.TERMS, "The NAME SAID of a PLANT as of d: that given to it as of d, followed by JOINS as of d to a NAME that is its own (0 if none was given).");
        BedBook x = onePlant();
        x.join(1, 2);
        x.days(1);
        Due.is("none was given", x.named(0, 0, 0), 0);
        x.name(0, 1);
        Due.is("none was given the day before", x.named(0, 0, 0), 0);
        Due.is("JOINED before it was given", x.named(0, 1, 0), 2);
        x.days(1);
        x.join(2, 3);
        Due.is("the second JOIN, as of 1", x.named(0, 1, 0), 2);
        Due.is("the second JOIN, as of 2", x.named(0, 2, 0), 3);
        BedBook y = onePlant();
        y.name(0, 50);
        for (int i = 50; i > 1; i--) {
            Due.yes("join(" + i + ", " + (i - 1) + ")", y.join(i, i - 1));
        }
        Due.is("over 49 JOINS", y.named(0, 0, 0), 1);
        y.join(25, 0);
        Due.is("to the one that was PARTED", y.named(0, 0, 0), 25);
    }

    private static void toldNow() {
        Due.about(Doc.TERMS, "The NAME TOLD NOW of d: that given as of d, followed by JOINS as of NOW.");
        BedBook x = onePlant();
        x.days(1);
        x.name(0, 1);
        x.join(1, 2);
        x.days(1);
        x.name(0, 3);
        x.days(1);
        x.join(1, 4);
        x.join(3, 5);
        int[] due = {0, 4, 5, 5};
        int[] dueSaid = {0, 2, 3, 5};
        for (int day = 0; day <= 3; day++) {
            Due.is("TOLD NOW of " + day, x.named(0, day, 1), due[day]);
            Due.is("SAID as of " + day, x.named(0, day, 0), dueSaid[day]);
        }
        x.days(1);
        x.join(3, 0);
        Due.is("TOLD NOW of 3, PARTED since", x.named(0, 3, 1), 3);
        Due.is("SAID as of 3, PARTED since", x.named(0, 3, 0), 5);
    }

    private static void leadingBack() {
        Due.about(Doc.TERMS, "A JOIN that would lead back to its own NAME as of NOW is refused.");
        BedBook x = onePlant();
        x.name(0, 1);
        for (int i = 1; i < 50; i++) {
            x.join(i, i + 1);
            Due.no("join(" + (i + 1) + ", 1) over " + i, x.join(i + 1, 1));
            Due.no("join(" + (i + 1) + ", " + i + ")", x.join(i + 1, i));
        }
        Due.is("refused ones are not told", x.count(4), 49);
        Due.is("and change nothing", x.named(0, 0, 0), 50);
        Due.yes("back into the chain, not to itself", x.join(1, 40));
        Due.no("join(50, 40)", x.join(50, 40));
        Due.yes("join(50, 39), which leads to 45 now that it is PARTED", x.join(45, 0) && x.join(50, 39));
        Due.no("join(45, 50), which leads to 45", x.join(45, 50));
    }

    private static void leadingBackAsOfNowAlone() {
        Due.about(Doc.TERMS, "would lead back to its own NAME as of NOW");
        BedBook x = onePlant();
        x.name(0, 2);
        x.join(1, 2);
        x.days(1);
        Due.no("join(2, 1), JOINED the day before", x.join(2, 1));
        x.join(1, 0);
        Due.yes("join(2, 1), PARTED today", x.join(2, 1));
        Due.is("SAID as of 0", x.named(0, 0, 0), 2);
        Due.is("SAID as of 1", x.named(0, 1, 0), 1);
        Due.is("TOLD NOW of 0", x.named(0, 0, 1), 1);
        x.days(1);
        x.join(2, 3);
        Due.yes("join(1, 2), 2 is JOINED to another one", x.join(1, 2));
        Due.is("SAID as of 1 still", x.named(0, 1, 0), 1);
    }

    private static void name() {
        Due.about(8, "A PLANT is given a NAME: true;");
        BedBook x = onePlant();
        Due.yes("name(0, 1)", x.name(0, 1));
        Due.yes("name(0, 50)", x.name(0, 50));
        Due.about(8, "false: none such, 300 were given.");
        int[] none = {MIN, -1, 1, 39, 40, MAX};
        for (int plant : none) {
            Due.no("name(" + plant + ", 1)", x.name(plant, 1));
        }
        int[] wrong = {MIN, -1, 0, 51, MAX};
        for (int name : wrong) {
            Due.no("name(0, " + name + ")", x.name(0, name));
        }
        Due.is("given", x.count(3), 2);
        Due.is("the last one given", x.named(0, 0, 0), 50);
    }

    private static void threeHundredNames() {
        Due.about(8, "300 were given.");
        BedBook x = onePlant();
        x.wild(1, 1);
        for (int i = 0; i < 299; i++) {
            x.name(i % 2, 1 + i % 50);
        }
        Due.yes("the 300th", x.name(1, 20));
        Due.no("the 301st", x.name(0, 21));
        Due.no("the 301st of the other", x.name(1, 21));
        Due.is("given", x.count(3), 300);
        Due.is("the last one of 0", x.named(0, 0, 0), 1 + 298 % 50);
        Due.is("the last one of 1", x.named(1, 0, 0), 20);
        x.days(1000);
        Due.no("the 301st on another day", x.name(0, 21));
        Due.yes("JOINS may still be told", x.join(20, 21));
    }

    private static void join() {
        Due.about(9, "A NAME is JOINED to another one (0: PARTED): true;");
        BedBook x = onePlant();
        x.name(0, 50);
        Due.yes("join(50, 1)", x.join(50, 1));
        Due.is("JOINED", x.named(0, 0, 0), 1);
        Due.yes("join(50, 0)", x.join(50, 0));
        Due.is("PARTED", x.named(0, 0, 0), 50);
        Due.yes("join(1, 50)", x.join(1, 50));
        Due.yes("join(1, 50) once more", x.join(1, 50));
        Due.about(9, "false: no such NAMES, the same, it would lead back to it, 100 were told.");
        int[] wrong = {MIN, -1, 51, MAX};
        for (int name : wrong) {
            Due.no("join(" + name + ", 7)", x.join(name, 7));
            Due.no("join(7, " + name + ")", x.join(7, name));
            Due.no("join(" + name + ", " + name + ")", x.join(name, name));
        }
        Due.no("join(0, 7)", x.join(0, 7));
        Due.no("join(0, 0)", x.join(0, 0));
        for (int name = 1; name <= 50; name++) {
            Due.no("join of " + name + " to the same", x.join(name, name));
        }
        Due.no("join(50, 1) leads back", x.join(50, 1));
        Due.is("told", x.count(4), 4);
    }

    private static void hundredJoins() {
        Due.about(9, "100 were told.");
        BedBook x = onePlant();
        x.name(0, 1);
        for (int i = 0; i < 99; i++) {
            Due.yes("told, the " + (i + 1) + "-th", x.join(1, i % 3 == 0 ? 0 : 2 + i % 9));
        }
        Due.yes("the 100th", x.join(1, 40));
        Due.no("the 101st, a JOIN", x.join(1, 41));
        Due.no("the 101st, a PARTING", x.join(1, 0));
        Due.no("the 101st, of another NAME", x.join(7, 8));
        Due.is("told", x.count(4), 100);
        Due.is("the 100th counts", x.named(0, 0, 0), 40);
        Due.yes("NAMES may still be given", x.name(0, 7));
    }

    private static void named() {
        Due.about(10, "The NAME of a PLANT as of a day up to NOW, what 0: SAID, 1: TOLD NOW.");
        BedBook x = onePlant();
        Due.is("on day 0, none given", x.named(0, 0, 0), 0);
        x.name(0, 1);
        x.days(5);
        x.join(1, 2);
        Due.is("SAID as of 0", x.named(0, 0, 0), 1);
        Due.is("TOLD NOW of 0", x.named(0, 0, 1), 2);
        Due.is("SAID as of NOW", x.named(0, 5, 0), 2);
        Due.is("TOLD NOW of NOW", x.named(0, 5, 1), 2);
    }

    private static void namedNoneSuch() {
        Due.about(10, "NoSuchElementException: none such.");
        BedBook x = onePlant();
        x.name(0, 1);
        Due.noSuch("named(0, 1, 0) on day 0", () -> x.named(0, 1, 0));
        x.days(5);
        int[] none = {MIN, -1, 1, 40, MAX};
        for (int plant : none) {
            Due.noSuch("named(" + plant + ", 0, 0)", () -> x.named(plant, 0, 0));
        }
        int[] wrongDays = {MIN, -1, 6, 9999, 10000, MAX};
        for (int day : wrongDays) {
            Due.noSuch("named(0, " + day + ", 0)", () -> x.named(0, day, 0));
            Due.noSuch("named(0, " + day + ", 1)", () -> x.named(0, day, 1));
        }
        int[] wrong = {MIN, -1, 2, MAX};
        for (int what : wrong) {
            Due.noSuch("named(0, 0, " + what + ")", () -> x.named(0, 0, what));
        }
    }
}
