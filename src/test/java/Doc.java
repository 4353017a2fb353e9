import java.io.IOException;
import java.nio.file.Files;
import java.nio.file.Path;

/** The document's own words: what a test is about must stand there, and in the end no words may be without a test. */
final class Doc {
    /** The part of the document that tells the terms; a promise's part is its number. */
    static final int TERMS = 0;
    private static final int PROMISES = 26;
    private static final Path PLACE = Path.of("../shared/DOC.md");

    private final String[] words = new String[PROMISES + 1];
    private final boolean[][] told = new boolean[PROMISES + 1][];

    Doc() {
        StringBuilder[] parts = new StringBuilder[PROMISES + 1];
        for (int part = 0; part <= PROMISES; part++) {
            parts[part] = new StringBuilder();
        }
        int part = -1;
        for (String line : lines()) {
            if (line.startsWith("## ")) {
                part = partOf(line);
            } else if (part >= 0 && !line.startsWith("```")) {
                parts[part].append(line).append(' ');
            }
        }
        for (part = 0; part <= PROMISES; part++) {
            words[part] = plain(parts[part].toString());
            told[part] = new boolean[words[part].length()];
        }
    }

    /** Whether these words stand in that part; they count as told then. */
    boolean says(int part, String quote) {
        int at = words[part].indexOf(quote);
        for (int i = 0; at >= 0 && i < quote.length(); i++) {
            told[part][at + i] = true;
        }
        return at >= 0;
    }

    /** The first words of a part, of the promise's text without its head, that no test was about; empty if none. */
    String untold(int part) {
        for (int i = 0; i < words[part].length(); i++) {
            if (!told[part][i] && Character.isLetterOrDigit(words[part].charAt(i))) {
                return words[part].substring(i, Math.min(words[part].length(), i + 40));
            }
        }
        return "";
    }

    private static Iterable<String> lines() {
        try {
            return Files.readAllLines(PLACE);
        } catch (IOException e) {
            throw new IllegalStateException("the document is not at " + PLACE, e);
        }
    }

    private static int partOf(String heading) {
        if (heading.equals("## Terms")) {
            return TERMS;
        }
        if (heading.startsWith("## Promise ")) {
            return Integer.parseInt(heading.substring(11, heading.indexOf(':')));
        }
        return -1;
    }

    /** Without the numbers of parts and the heads of promises, and with one blank where there are more. */
    private static String plain(String text) {
        return text.replaceAll("==== \\d\\. ", "").replaceAll("\\s+", " ").replaceFirst("^ `[^`]*`: ", "");
    }
}
