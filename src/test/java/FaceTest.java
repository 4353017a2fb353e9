import java.lang.reflect.Constructor;
import java.lang.reflect.Field;
import java.lang.reflect.Method;
import java.lang.reflect.Modifier;
import java.util.Arrays;
import java.util.Set;
import java.util.TreeSet;

/** The class has the document's face and no other member that can be seen, and keeps no state but in its objects. */
public final class FaceTest {
    private static final String[] FACE = {
        "int days(int)", "int wild(int,int)", "int seed(int,int,int)", "int cut(int,int)", "int split(int,int)",
        "boolean mark(int,int,int,int)", "boolean name(int,int)", "boolean join(int,int)",
        "int named(int,int,int) NoSuchElementException", "int bed(int,int,int)", "boolean change(int,int,int)",
        "boolean needs(int,int,int,int,int)", "boolean lay(int,int)", "int moves()", "int feed(long,long,long)",
        "int text()", "int may(int,int,int)", "boolean send(int,int,int)", "int sent(int,int)", "boolean seen(int,int)",
        "int close(int)", "int fits(int)", "int changed(int,int)", "int look(int,int) NoSuchElementException",
        "int count(int)"};

    public static void main(String[] args) {
        Due.yes("BedBook is public", Modifier.isPublic(BedBook.class.getModifiers()));
        Due.yes("BedBook is final", Modifier.isFinal(BedBook.class.getModifiers()));
        constructors();
        methods();
        fields(BedBook.class);
        int classes = 1;
        for (Class<?> inside : BedBook.class.getDeclaredClasses()) {
            classes++;
            Due.yes(inside + " is static", Modifier.isStatic(inside.getModifiers()));
            Due.no(inside + " is public", Modifier.isPublic(inside.getModifiers()));
            Due.no(inside + " is protected", Modifier.isProtected(inside.getModifiers()));
            fields(inside);
        }
        Due.yes("at most twelve classes", classes <= 12);
        Due.end();
    }

    private static void constructors() {
        Constructor<?>[] all = BedBook.class.getDeclaredConstructors();
        Due.is("constructors", all.length, 1);
        Due.is("what the constructor takes", all[0].getParameterCount(), 0);
        Due.yes("the constructor is public", Modifier.isPublic(all[0].getModifiers()));
    }

    private static void methods() {
        Set<String> seen = new TreeSet<>();
        Set<String> names = new TreeSet<>();
        for (Method m : BedBook.class.getDeclaredMethods()) {
            if (Modifier.isPrivate(m.getModifiers())) {
                continue;
            }
            Due.yes(m + " is public", Modifier.isPublic(m.getModifiers()));
            Due.no(m + " is static", Modifier.isStatic(m.getModifiers()));
            seen.add(signature(m));
            names.add(m.getName());
        }
        Set<String> due = new TreeSet<>(Arrays.asList(FACE));
        Due.yes("the face is " + due + ", seen is " + seen, due.equals(seen));
        for (Method m : BedBook.class.getDeclaredMethods()) {
            if (Modifier.isPrivate(m.getModifiers())) {
                Due.no("private " + m.getName() + " bears the name of a public one", names.contains(m.getName()));
            }
        }
    }

    private static String signature(Method m) {
        StringBuilder out = new StringBuilder();
        for (Class<?> p : m.getParameterTypes()) {
            out.append(out.length() == 0 ? "" : ",").append(p.getName());
        }
        String head = m.getReturnType().getName() + " " + m.getName() + "(" + out + ")";
        for (Class<?> e : m.getExceptionTypes()) {
            head += " " + e.getSimpleName();
        }
        return head;
    }

    private static void fields(Class<?> of) {
        int own = 0;
        for (Field f : of.getDeclaredFields()) {
            boolean isStatic = Modifier.isStatic(f.getModifiers());
            if (isStatic) {
                Due.yes(f + " is final", Modifier.isFinal(f.getModifiers()));
            } else {
                own++;
            }
            boolean face = of == BedBook.class && f.getName().equals("NONE");
            if (of == BedBook.class) {
                Due.is(f + " can be seen", Modifier.isPrivate(f.getModifiers()) ? 0 : 1, face ? 1 : 0);
            }
            if (face) {
                Due.yes("NONE is public", Modifier.isPublic(f.getModifiers()) && isStatic && f.getType() == int.class);
            }
        }
        Due.yes(of + " has some twenty fields at most", own <= 20);
    }
}
