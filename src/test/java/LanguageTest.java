import java.io.IOException;
import java.lang.reflect.Array;
import java.lang.reflect.Executable;
import java.lang.reflect.Field;
import java.lang.reflect.Modifier;
import java.nio.file.Files;
import java.nio.file.Path;
import java.util.ArrayDeque;
import java.util.ArrayList;
import java.util.Collections;
import java.util.Deque;
import java.util.IdentityHashMap;
import java.util.List;
import java.util.Set;
import java.util.regex.Matcher;
import java.util.regex.Pattern;

/** Rules of ../shared/LANGUAGE.md that a test can see, by their numbers, and the room that an object takes. */
public final class LanguageTest {
    private static final Path SOURCE = Path.of("src/main/java/BedBook.java");
    private static final String[] NEVER = {
        "\\bpackage\\b", "->", "::", "\\bfinally\\b", "\\bsynchronized\\b", "\\bassert\\b", "\\bcatch\\b", "Exact\\(",
        "\\bhashCode\\b", "\\btoString\\b", "\\.equals\\(", "\\bdouble\\b", "\\bfloat\\b", "\\bstatic \\{",
        "\\bSystem\\.(?!arraycopy\\()", "\\bThread\\b", "\\bRandom\\b", "\\bgetMessage\\b", "\\bprotected\\b"};
    private static final int MOST_LINES = 60;

    public static void main(String[] args) throws IOException, IllegalAccessException {
        String code = withoutTextsAndComments(Files.readString(SOURCE));
        words(code);
        exceptions(code);
        methodsAreShort(code);
        parameters();
        nothingIsHandedOut();
        room();
        Due.end();
    }

    /** Rules 3 to 6 and 13. */
    private static void words(String code) {
        for (String never : NEVER) {
            Due.is("rule 3 to 6, 13: in the code, " + never, Pattern.compile(never).matcher(code).results().count(), 0);
        }
        List<String> imports = code.lines().filter(line -> line.startsWith("import ")).toList();
        Due.yes("rule 4: imports " + imports, imports.equals(List.of("import java.util.NoSuchElementException;")));
    }

    /** Rule 6: the document names one exception alone. */
    private static void exceptions(String code) {
        Matcher thrown = Pattern.compile("\\bthrow\\b(.*)").matcher(code);
        while (thrown.find()) {
            Due.yes("rule 6: throw" + thrown.group(1), thrown.group(1).startsWith(" new NoSuchElementException("));
        }
    }

    /** Rule 11; a method begins with its head at 4 or 8 blanks and ends with a brace as far in. */
    private static void methodsAreShort(String code) {
        Pattern head = Pattern.compile("( {4}| {8})[A-Za-z].*\\).*\\{");
        String begun = null;
        String indent = "";
        int length = 0;
        for (String line : code.split("\n")) {
            length++;
            Matcher match = head.matcher(line);
            if (begun == null && match.matches()) {
                begun = line.trim();
                indent = match.group(1);
                length = 1;
            } else if (begun != null && line.equals(indent + "}")) {
                Due.yes("rule 11: " + length + " lines of " + begun, length <= MOST_LINES);
                begun = null;
            }
        }
        Due.yes("rule 11: the last method ends", begun == null);
    }

    /** Rule 11. */
    private static void parameters() {
        for (Class<?> c : classes()) {
            List<Executable> all = new ArrayList<>(List.of(c.getDeclaredMethods()));
            all.addAll(List.of(c.getDeclaredConstructors()));
            for (Executable e : all) {
                Due.yes("rule 11: parameters of " + e, e.getParameterCount() <= 7);
            }
        }
    }

    /** Rule 12: if a constructor had handed out a part of what it makes, that part would have two holders. */
    private static void nothingIsHandedOut() throws IllegalAccessException {
        Set<Object> held = Collections.newSetFromMap(new IdentityHashMap<>());
        Deque<Object> open = new ArrayDeque<>(List.of(new BedBook()));
        while (!open.isEmpty()) {
            Object holder = open.remove();
            for (Object part : parts(holder)) {
                Due.yes("rule 12: a new object's " + part.getClass().getSimpleName() + " in "
                        + holder.getClass().getSimpleName() + " has no other holder", held.add(part));
                open.add(part);
            }
        }
    }

    /** What a full garden holds stays far below the room of 600,000 objects and 7.3 million elements. */
    private static void room() throws IllegalAccessException {
        BedBook x = new BedBook();
        for (int i = 0; i < 40; i++) {
            x.wild(1, 100);
            x.bed(5, 5, 40);
            x.lay(i, i % 8);
            x.name(i, 1 + i);
            x.join(1 + i, 2 + i);
        }
        for (int i = 0; i < 100; i++) {
            Due.read(x, "let when 1;");
            x.send(i % 40, 1, 1);
        }
        Set<Object> all = Collections.newSetFromMap(new IdentityHashMap<>());
        Deque<Object> open = new ArrayDeque<>(List.of(x));
        long elements = 0;
        while (!open.isEmpty()) {
            Object o = open.remove();
            if (all.add(o)) {
                elements += o.getClass().isArray() ? Array.getLength(o) : fields(o.getClass()).size();
                open.addAll(parts(o));
            }
        }
        Due.yes("objects: " + all.size(), all.size() <= 150);
        Due.yes("elements: " + elements, elements <= 10000);
    }

    private static List<Class<?>> classes() {
        List<Class<?>> all = new ArrayList<>(List.of(BedBook.class.getDeclaredClasses()));
        all.add(BedBook.class);
        return all;
    }

    private static List<Field> fields(Class<?> c) {
        List<Field> own = new ArrayList<>();
        for (Field f : c.getDeclaredFields()) {
            if (!Modifier.isStatic(f.getModifiers())) {
                f.setAccessible(true);
                own.add(f);
            }
        }
        return own;
    }

    /** The objects and arrays that an object or an array of objects holds. */
    private static List<Object> parts(Object holder) throws IllegalAccessException {
        List<Object> parts = new ArrayList<>();
        if (holder instanceof Object[] row) {
            for (Object part : row) {
                addPart(parts, part);
            }
        } else if (!holder.getClass().isArray()) {
            for (Field f : fields(holder.getClass())) {
                if (!f.getType().isPrimitive()) {
                    addPart(parts, f.get(holder));
                }
            }
        }
        return parts;
    }

    private static void addPart(List<Object> parts, Object part) {
        if (part != null) {
            parts.add(part);
        }
    }

    private static String withoutTextsAndComments(String source) {
        String plain = source.replaceAll("(?s)/\\*.*?\\*/", "").replaceAll("\"[^\"\n]*\"", "\"\"");
        return plain.replaceAll("//[^\n]*", "");
    }
}
