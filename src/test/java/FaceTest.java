import java.lang.reflect.Constructor;
import java.lang.reflect.Field;
import java.lang.reflect.Method;
import java.lang.reflect.Modifier;
import java.util.Arrays;
import java.util.Set;
import java.util.TreeSet;

/** The class has the document's public face, and no other member that can be seen from outside. */
public final class FaceTest {
    private static final Set<String> FACE = new TreeSet<>(Arrays.asList(
        "FeedbackQueues()",
        "int NONE = -1",
        "void levels(int) IllegalArgumentException",
        "void level(int, int, int) IndexOutOfBoundsException IllegalArgumentException IllegalStateException",
        "void period(int) IllegalArgumentException IllegalStateException",
        "int process(int) IllegalArgumentException IllegalStateException",
        "int burst(int, int) IndexOutOfBoundsException IllegalArgumentException IllegalStateException",
        "int run(int) IllegalArgumentException",
        "void restart()",
        "int time()",
        "int told(int, int) IndexOutOfBoundsException IllegalArgumentException",
        "int running()",
        "int queued(int, int) IndexOutOfBoundsException",
        "int all(int) IllegalArgumentException",
        "int switched(int) IndexOutOfBoundsException"));

    private static int wrong = 0;

    public static void main(String[] args) throws IllegalAccessException {
        check(Modifier.toString(FeedbackQueues.class.getModifiers()).equals("public final"), "the class is public final");
        Set<String> seen = new TreeSet<>();
        addConstructors(seen);
        addFields(seen);
        addMethods(seen);
        for (String member : FACE) {
            check(seen.contains(member), "missing: " + member);
        }
        for (String member : seen) {
            check(FACE.contains(member), "not in the document: " + member);
        }
        checkNestedClasses();
        checkPrivateNames();
        System.out.println(wrong == 0 ? "the face is as due" : wrong + " faults of the face");
        if (wrong != 0) {
            System.exit(1);
        }
    }

    private static void addConstructors(Set<String> seen) {
        for (Constructor<?> c : FeedbackQueues.class.getDeclaredConstructors()) {
            if (!Modifier.isPrivate(c.getModifiers())) {
                check(Modifier.isPublic(c.getModifiers()), "constructor is public");
                seen.add("FeedbackQueues(" + names(c.getParameterTypes(), ", ") + ")");
            }
        }
    }

    private static void addFields(Set<String> seen) throws IllegalAccessException {
        for (Field f : FeedbackQueues.class.getDeclaredFields()) {
            if (!Modifier.isPrivate(f.getModifiers())) {
                String modifiers = Modifier.toString(f.getModifiers());
                check(modifiers.equals("public static final"), f.getName() + " is a public constant");
                seen.add(f.getType().getSimpleName() + " " + f.getName() + " = " + f.get(null));
            }
        }
    }

    private static void addMethods(Set<String> seen) {
        for (Method m : FeedbackQueues.class.getDeclaredMethods()) {
            if (!Modifier.isPrivate(m.getModifiers())) {
                check(Modifier.toString(m.getModifiers()).equals("public"), m.getName() + " is public, not static");
                String thrown = names(m.getExceptionTypes(), " ");
                seen.add(m.getReturnType().getSimpleName() + " " + m.getName() + "(" + names(m.getParameterTypes(), ", ") + ")"
                    + (thrown.isEmpty() ? "" : " " + thrown));
            }
        }
    }

    private static void checkNestedClasses() {
        for (Class<?> c : FeedbackQueues.class.getDeclaredClasses()) {
            check(!Modifier.isPublic(c.getModifiers()) && !Modifier.isProtected(c.getModifiers())
                && Modifier.isStatic(c.getModifiers()), c.getSimpleName() + " is static, and private or package-visible");
        }
    }

    private static void checkPrivateNames() {
        Set<String> open = new TreeSet<>();
        for (Method m : FeedbackQueues.class.getDeclaredMethods()) {
            if (Modifier.isPublic(m.getModifiers())) {
                open.add(m.getName());
            }
        }
        for (Method m : FeedbackQueues.class.getDeclaredMethods()) {
            check(Modifier.isPublic(m.getModifiers()) || !open.contains(m.getName()), "a private method is named " + m.getName());
        }
        for (Class<?> c : FeedbackQueues.class.getDeclaredClasses()) {
            for (Method m : c.getDeclaredMethods()) {
                check(!open.contains(m.getName()), c.getSimpleName() + " has a method named " + m.getName());
            }
        }
    }

    private static String names(Class<?>[] types, String between) {
        StringBuilder text = new StringBuilder();
        for (Class<?> type : types) {
            text.append(text.length() == 0 ? "" : between).append(type.getSimpleName());
        }
        return text.toString();
    }

    private static void check(boolean holds, String what) {
        if (!holds) {
            wrong++;
            System.out.println(what);
        }
    }
}
