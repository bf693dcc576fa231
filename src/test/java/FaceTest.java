import java.lang.reflect.Constructor;
import java.lang.reflect.Field;
import java.lang.reflect.Method;
import java.lang.reflect.Modifier;
import java.util.TreeSet;

/** The class shows the document's public face, exactly, and LANGUAGE.md's rule 1 holds for the rest. */
public final class FaceTest {
    private static final String IOOBE = "IndexOutOfBoundsException";
    private static final String IAE = "IllegalArgumentException";
    private static final String ISE = "IllegalStateException";

    private static int wrong = 0;

    public static void main(String[] args) {
        TreeSet<String> due = new TreeSet<>();
        due.add(line("int envelope 0", ISE));
        due.add(line("int scan 3", IOOBE, IAE, ISE));
        due.add(line("int ofLetter 2", IOOBE, IAE));
        due.add(line("int score 2", IOOBE));
        due.add(line("int confidence 1", IOOBE));
        due.add(line("int terms 3", IOOBE, IAE));
        due.add(line("int bar 1", IAE));
        due.add(line("int teach 2", IOOBE, ISE));
        due.add(line("int weight 2", IOOBE));
        due.add(line("int ofClass 2", IOOBE, IAE));
        due.add(line("int join 2", IOOBE, IAE));
        due.add(line("int answer 1", IOOBE, ISE));
        due.add(line("int ofFile 2", IOOBE, IAE));
        due.add(line("int onShelf 1", IOOBE));
        due.add(line("int day 0", ISE));
        due.add(line("int sample 1", IOOBE));
        due.add(line("int many 1", IAE));
        due.add(line("double rightPart 0"));
        due.add(line("int classFor 1", IAE));
        due.add(line("int changedBy 2", IOOBE));
        due.add(line("int missedIn 1", IAE));
        due.add(line("int destroyedIn 1", IAE));
        due.add(line("long digest 0"));

        TreeSet<String> privateNames = new TreeSet<>();
        TreeSet<String> publicNames = new TreeSet<>();
        TreeSet<String> shown = new TreeSet<>();
        for (Method m : PaperlessRegistry.class.getDeclaredMethods()) {
            check(Modifier.isPublic(m.getModifiers()) || Modifier.isPrivate(m.getModifiers()) || m.isSynthetic(),
                    m + " is neither public nor private");
            if (Modifier.isPublic(m.getModifiers())) {
                publicNames.add(m.getName());
                shown.add(shownLine(m));
            } else {
                privateNames.add(m.getName());
            }
        }
        check(due.equals(shown), "the face is " + shown + ", due is " + due);

        for (Class<?> inside : PaperlessRegistry.class.getDeclaredClasses()) {
            check(Modifier.isStatic(inside.getModifiers()), inside + " is not static");
            check(!Modifier.isPublic(inside.getModifiers()), inside + " is public");
            for (Method m : inside.getDeclaredMethods()) {
                privateNames.add(m.getName());
            }
        }
        privateNames.retainAll(publicNames);
        check(privateNames.isEmpty(), "private methods with public names: " + privateNames);

        for (Field f : PaperlessRegistry.class.getDeclaredFields()) {
            check(Modifier.isPrivate(f.getModifiers()), f + " is not private");
            check(!Modifier.isStatic(f.getModifiers()) || Modifier.isFinal(f.getModifiers()), f + " is static, not final");
        }
        Constructor<?>[] made = PaperlessRegistry.class.getDeclaredConstructors();
        check(made.length == 1 && Modifier.isPublic(made[0].getModifiers()) && made[0].getParameterCount() == 0,
                "there is another constructor than the public one without parameters");
        check(Modifier.isFinal(PaperlessRegistry.class.getModifiers()), "the class is not final");

        System.out.println(wrong == 0 ? "the face is as due" : wrong + " faults in the face");
        if (wrong != 0) {
            System.exit(1);
        }
    }

    private static String line(String start, String... thrown) {
        return start + " " + new TreeSet<>(java.util.Arrays.asList(thrown));
    }

    private static String shownLine(Method m) {
        TreeSet<String> thrown = new TreeSet<>();
        for (Class<?> e : m.getExceptionTypes()) {
            thrown.add(e.getSimpleName());
        }
        for (Class<?> p : m.getParameterTypes()) {
            check(p == int.class, m + " takes another type than int");
        }
        return m.getReturnType() + " " + m.getName() + " " + m.getParameterCount() + " " + thrown;
    }

    private static void check(boolean holds, String otherwise) {
        if (!holds) {
            wrong++;
            System.out.println(otherwise);
        }
    }
}
