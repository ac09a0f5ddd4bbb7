import java.lang.reflect.Constructor;
import java.lang.reflect.Field;
import java.lang.reflect.Member;
import java.lang.reflect.Method;
import java.lang.reflect.Modifier;
import java.util.ArrayList;
import java.util.List;
import java.util.TreeSet;

/** Compares the public face with the document's, and what reflection can see with LANGUAGE.md. */
public final class FaceTest {
    /** Name, parameters, and what it throws: A(rgument), S(tate), N(o such element), I(ndex), U(nsupported). */
    private static final String[] FACE = {
        "begin 1 AIS", "end 1 AINSU", "abort 1 ANS", "open 3 AINSU", "close 2 AS", "read 2 ANSU",
        "write 3 AISU", "seek 3 ASU", "truncate 3 AISU", "directory 2 AINSU", "link 3 AINSU",
        "unlink 2 AINSU", "rename 3 AINSU", "size 2 ANSU", "pipe 1 AIS", "fork 1 AISU", "exit 1 ASU",
        "signal 3 AINS", "take 1 ANS", "log 1 A", "cut 1 A", "item 2 A", "cell 2 AI", "look 2 A", "count 1 A"};
    private static final String[] CONSTANTS = {"FREE 0", "FILE 1", "DIRECTORY 2", "PIPE 3"};
    private static int wrong = 0;

    public static void main(String[] args) throws IllegalAccessException {
        Class<?> face = XactKernel.class;
        check(Modifier.isPublic(face.getModifiers()) && Modifier.isFinal(face.getModifiers()), "public and final");
        checkMethods(face);
        checkConstants(face);
        checkConstructors(face);
        Class<?>[] inside = face.getDeclaredClasses();
        check(inside.length <= 12, "at most twelve classes");
        checkShape(face);
        for (Class<?> c : inside) {
            check(Modifier.isStatic(c.getModifiers()) && !Modifier.isPublic(c.getModifiers()),
                    c.getName() + " is static, not public");
            checkShape(c);
        }
        System.out.println("face: wrong: " + wrong);
        System.exit(wrong == 0 ? 0 : 1);
    }

    private static void check(boolean holds, String what) {
        if (!holds) {
            wrong++;
            System.out.println("does not hold: " + what);
        }
    }

    private static void checkMethods(Class<?> face) {
        TreeSet<String> due = new TreeSet<>(List.of(FACE));
        TreeSet<String> got = new TreeSet<>();
        List<String> publicNames = new ArrayList<>();
        for (Method m : face.getDeclaredMethods()) {
            if (isPublic(m)) {
                got.add(described(m));
                publicNames.add(m.getName());
                check(m.getReturnType() == int.class && !Modifier.isStatic(m.getModifiers()),
                        m.getName() + " is an int of an object");
            }
        }
        check(due.equals(got), "the methods are " + due + ", they are " + got);
        for (Method m : face.getDeclaredMethods()) {
            check(isPublic(m) || isPrivate(m), m.getName() + " is public or private");
            check(isPublic(m) || !publicNames.contains(m.getName()), m.getName() + " is also the name of a public one");
        }
    }

    private static String described(Method m) {
        TreeSet<String> thrown = new TreeSet<>();
        for (Class<?> e : m.getExceptionTypes()) {
            String name = e.getSimpleName();
            thrown.add(name.equals("IllegalArgumentException") ? "A" : name.equals("IllegalStateException") ? "S"
                    : name.equals("NoSuchElementException") ? "N" : name.equals("IndexOutOfBoundsException") ? "I"
                    : name.equals("UnsupportedOperationException") ? "U" : name);
        }
        for (Class<?> p : m.getParameterTypes()) {
            check(p == int.class, m.getName() + " takes ints");
        }
        return m.getName() + " " + m.getParameterCount() + " " + String.join("", thrown);
    }

    private static void checkConstants(Class<?> face) throws IllegalAccessException {
        TreeSet<String> got = new TreeSet<>();
        for (Field f : face.getDeclaredFields()) {
            check(isPublic(f) || isPrivate(f), f.getName() + " is public or private");
            if (isPublic(f)) {
                check(f.getType() == int.class && Modifier.isStatic(f.getModifiers()),
                        f.getName() + " is a constant int");
                got.add(f.getName() + " " + f.get(null));
            }
        }
        check(got.equals(new TreeSet<>(List.of(CONSTANTS))), "the constants are " + got);
    }

    private static void checkConstructors(Class<?> face) {
        Constructor<?>[] all = face.getDeclaredConstructors();
        check(all.length == 1 && isPublic(all[0]) && all[0].getParameterCount() == 0, "one public constructor");
    }

    private static void checkShape(Class<?> c) {
        int fields = 0;
        for (Field f : c.getDeclaredFields()) {
            boolean constant = Modifier.isStatic(f.getModifiers());
            check(!constant || Modifier.isFinal(f.getModifiers()), f.getName() + " is static, but not final");
            fields += constant ? 0 : 1;
        }
        check(fields <= 20, c.getName() + " has at most twenty fields");
        for (Method m : c.getDeclaredMethods()) {
            check(m.getParameterCount() <= 7, m.getName() + " takes at most seven parameters");
            check(!m.isSynthetic(), m.getName() + " was made by the compiler (a lambda?)");
        }
    }

    private static boolean isPublic(Member m) {
        return Modifier.isPublic(m.getModifiers());
    }

    private static boolean isPrivate(Member m) {
        return Modifier.isPrivate(m.getModifiers());
    }
}
