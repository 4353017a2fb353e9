import java.util.NoSuchElementException;
import java.util.function.IntSupplier;

/** What the tests share: comparing an answer with the one that is due, and putting a text on the tape. */
final class Due {
    private static int calls = 0;
    private static int wrong = 0;
    private static String heading = "";
    private static Doc doc;

    private Due() {
    }

    static void is(String call, long got, long want) {
        calls++;
        if (got != want) {
            wrong++;
            System.out.println(heading + call + " answered " + got + ", due is " + want);
        }
    }

    /** The next answers are about these words of the document: of a promise, or of the terms (Doc.TERMS). */
    static void about(int part, String words) {
        if (doc == null) {
            doc = new Doc();
        }
        heading = "";
        yes("the document says, part " + part + ": " + words, doc.says(part, words));
        heading = (part == Doc.TERMS ? "Terms" : "Promise " + part) + ", \"" + words + "\": ";
    }

    /** No words of a promise or of the terms may be left that no test was about. */
    static void allOfTheDocument() {
        heading = "";
        for (int part = Doc.TERMS; doc != null && part <= 26; part++) {
            String rest = doc.untold(part);
            yes("a test about part " + part + ", \"" + rest + "\"", rest.isEmpty());
        }
    }

    static void yes(String call, boolean got) {
        is(call, got ? 1 : 0, 1);
    }

    static void no(String call, boolean got) {
        is(call, got ? 1 : 0, 0);
    }

    static void noSuch(String call, IntSupplier asked) {
        calls++;
        try {
            int got = asked.getAsInt();
            wrong++;
            System.out.println(heading + call + " answered " + got + ", due is NoSuchElementException");
        } catch (NoSuchElementException e) {
            // as due
        }
    }

    /** Feeds a text, 24 signs a call; the last answer. */
    static int put(BedBook book, String text) {
        int length = book.count(8);
        for (int i = 0; i < text.length(); i += 24) {
            length = book.feed(eight(text, i), eight(text, i + 8), eight(text, i + 16));
        }
        return length;
    }

    static int read(BedBook book, String text) {
        put(book, text);
        return book.text();
    }

    /** Eight signs of a text as the bytes of a number, the first one highest; 0 where it has ended. */
    static long eight(String text, int from) {
        long bytes = 0;
        for (int i = from; i < from + 8; i++) {
            bytes = bytes << 8 | (i < text.length() ? text.charAt(i) & 255 : 0);
        }
        return bytes;
    }

    static void end() {
        System.out.println(calls + " answers compared, " + wrong + " not as due");
        if (wrong != 0) {
            System.exit(1);
        }
    }
}
