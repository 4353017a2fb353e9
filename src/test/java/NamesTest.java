/** Promises 8 to 10: names given, joined and parted, and told as of a day. */
public final class NamesTest {
    public static void main(String[] args) {
        promise8Name();
        promise9Join();
        promise9ChainOfAllNames();
        promise10Named();
        Due.end();
    }

    private static void promise8Name() {
        BedBook x = new BedBook();
        x.wild(1, 1);
        x.wild(1, 1);
        Due.no("name(2, 1)", x.name(2, 1));
        Due.no("name(-1, 1)", x.name(-1, 1));
        Due.no("name(0, 0)", x.name(0, 0));
        Due.no("name(0, 51)", x.name(0, 51));
        Due.no("name(0, -1)", x.name(0, -1));
        Due.is("none was given", x.named(0, 0, 0), 0);
        Due.is("none was given, TOLD NOW", x.named(0, 0, 1), 0);
        Due.yes("name(0, 1)", x.name(0, 1));
        Due.yes("name(0, 50)", x.name(0, 50));
        Due.is("the later one of a day", x.named(0, 0, 0), 50);
        Due.is("the other one has none", x.named(1, 0, 0), 0);
        Due.yes("name(0, 50) once more", x.name(0, 50));
        for (int i = 3; i < 300; i++) {
            Due.yes("name, the " + i + "-th", x.name(1, 1 + i % 50));
        }
        Due.no("name, the 301st", x.name(0, 2));
        Due.is("given", x.count(3), 300);
        Due.is("the last one counts", x.named(1, 0, 0), 50);
        Due.is("the 301st was not given", x.named(0, 0, 0), 50);
        Due.is("a child takes no NAME", x.named(x.cut(1, 1), 0, 0), 0);
    }

    private static void promise9Join() {
        BedBook x = new BedBook();
        Due.no("join(0, 1)", x.join(0, 1));
        Due.no("join(51, 1)", x.join(51, 1));
        Due.no("join(1, 51)", x.join(1, 51));
        Due.no("join(1, -1)", x.join(1, -1));
        Due.no("join(1, 1)", x.join(1, 1));
        Due.yes("join(1, 0) of one that is its own", x.join(1, 0));
        Due.yes("join(1, 50)", x.join(1, 50));
        Due.no("join(50, 1) leads back", x.join(50, 1));
        Due.yes("join(1, 2) in place of 50", x.join(1, 2));
        Due.yes("join(50, 1) leads back no more", x.join(50, 1));
        Due.yes("join(2, 3)", x.join(2, 3));
        Due.no("join(3, 50) leads back by 1 and 2", x.join(3, 50));
        x.days(5);
        Due.no("join(3, 50) leads back on a later day", x.join(3, 50));
        Due.yes("join(2, 0)", x.join(2, 0));
        Due.yes("join(3, 50) leads back no more", x.join(3, 50));
        Due.is("told", x.count(4), 7);
        for (int i = 7; i < 100; i++) {
            Due.yes("join, the " + i + "-th", x.join(40, i % 2 == 0 ? 41 : 0));
        }
        Due.no("join, the 101st", x.join(40, 41));
        Due.no("parted, the 101st", x.join(40, 0));
        Due.is("told", x.count(4), 100);
    }

    private static void promise9ChainOfAllNames() {
        BedBook x = new BedBook();
        x.wild(1, 1);
        x.name(0, 1);
        for (int i = 1; i < 50; i++) {
            Due.yes("join(" + i + ", " + (i + 1) + ")", x.join(i, i + 1));
        }
        Due.is("the end of a chain of all", x.named(0, 0, 0), 50);
        Due.no("join(50, 1) leads back by all", x.join(50, 1));
        Due.no("join(50, 49)", x.join(50, 49));
    }

    private static void promise10Named() {
        BedBook x = new BedBook();
        x.wild(1, 1);
        x.days(10);
        x.name(0, 5);
        x.days(10);
        x.join(5, 6);
        x.days(10);
        x.name(0, 7);
        x.join(7, 5);
        x.join(6, 8);
        Due.is("SAID as of 9", x.named(0, 9, 0), 0);
        Due.is("TOLD NOW of 9", x.named(0, 9, 1), 0);
        Due.is("SAID as of 10", x.named(0, 10, 0), 5);
        Due.is("TOLD NOW of 10", x.named(0, 10, 1), 8);
        Due.is("SAID as of 19", x.named(0, 19, 0), 5);
        Due.is("SAID as of 20", x.named(0, 20, 0), 6);
        Due.is("SAID as of 29", x.named(0, 29, 0), 6);
        Due.is("SAID as of 30", x.named(0, 30, 0), 8);
        Due.is("TOLD NOW of 29", x.named(0, 29, 1), 8);
        x.join(5, 0);
        Due.is("PARTED on the day of the JOIN", x.named(0, 30, 0), 5);
        Due.is("TOLD NOW of 20, PARTED", x.named(0, 20, 1), 5);
        Due.is("SAID as of 20 stays", x.named(0, 20, 0), 6);
        Due.noSuch("named(1, 0, 0)", () -> x.named(1, 0, 0));
        Due.noSuch("named(-1, 0, 0)", () -> x.named(-1, 0, 0));
        Due.noSuch("named(0, 31, 0)", () -> x.named(0, 31, 0));
        Due.noSuch("named(0, -1, 0)", () -> x.named(0, -1, 0));
        Due.noSuch("named(0, 0, 2)", () -> x.named(0, 0, 2));
        Due.noSuch("named(0, 0, -1)", () -> x.named(0, 0, -1));
    }
}
