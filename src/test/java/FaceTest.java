import java.lang.reflect.Constructor;
import java.lang.reflect.Executable;
import java.lang.reflect.Field;
import java.lang.reflect.Member;
import java.lang.reflect.Method;
import java.lang.reflect.Modifier;
import java.util.Arrays;
import java.util.Set;
import java.util.TreeSet;

/** The class has the document's public face, and nothing else of it can be seen from outside. */
public final class FaceTest {
    private static final Set<String> FACE = new TreeSet<>(Arrays.asList(
        "public static final NONE int",
        "public new(int)",
        "public type(int, boolean) int",
        "public make(int) int",
        "public record(int, long) int",
        "public run(int, int) int",
        "public value(int, int) long",
        "public failed(int, int) int",
        "public cell(int) long",
        "public same(int, int) boolean",
        "public resume(int) int",
        "public divide(int, long, long) long throws ArithmeticException",
        "public dry(int, int) int",
        "public handle(int) int throws IllegalStateException"));

    public static void main(String[] args) {
        boolean right = isFaceAsDue() & isClassAsDue() & areNamesApart();
        System.out.println(right ? "the face is as due" : "the face is not as due");
        if (!right) {
            System.exit(1);
        }
    }

    private static boolean isFaceAsDue() {
        Set<String> seen = new TreeSet<>();
        for (Field field : BatchClasses.class.getDeclaredFields()) {
            if (!Modifier.isPrivate(field.getModifiers())) {
                seen.add(modifiers(field) + field.getName() + " " + field.getType().getSimpleName());
            }
        }
        for (Constructor<?> made : BatchClasses.class.getDeclaredConstructors()) {
            if (!Modifier.isPrivate(made.getModifiers())) {
                seen.add(modifiers(made) + "new" + inputs(made) + thrown(made));
            }
        }
        for (Method method : BatchClasses.class.getDeclaredMethods()) {
            if (!Modifier.isPrivate(method.getModifiers())) {
                seen.add(modifiers(method) + method.getName() + inputs(method) + " "
                    + method.getReturnType().getSimpleName() + thrown(method));
            }
        }
        if (!seen.equals(FACE)) {
            System.out.println("seen is " + seen + ", due is " + FACE);
        }
        return seen.equals(FACE);
    }

    /** A member that only the same package sees would pass for the face in tests without a package. */
    private static String modifiers(Member member) {
        String words = Modifier.toString(member.getModifiers());
        return words.isEmpty() ? "" : words + " ";
    }

    private static String inputs(Executable call) {
        return "(" + names(call.getParameterTypes()) + ")";
    }

    private static String thrown(Executable call) {
        return call.getExceptionTypes().length == 0 ? "" : " throws " + names(call.getExceptionTypes());
    }

    private static String names(Class<?>[] types) {
        StringBuilder names = new StringBuilder();
        for (Class<?> type : types) {
            names.append(names.length() == 0 ? "" : ", ").append(type.getSimpleName());
        }
        return names.toString();
    }

    private static boolean isClassAsDue() {
        boolean right = Modifier.isFinal(BatchClasses.class.getModifiers())
            && Modifier.isPublic(BatchClasses.class.getModifiers());
        for (Field field : BatchClasses.class.getDeclaredFields()) {
            right &= !Modifier.isStatic(field.getModifiers()) || Modifier.isFinal(field.getModifiers());
        }
        for (Class<?> inside : BatchClasses.class.getDeclaredClasses()) {
            right &= Modifier.isStatic(inside.getModifiers()) && !Modifier.isPublic(inside.getModifiers());
        }
        if (!right) {
            System.out.println("the class, a static field or a class inside is not final, static or hidden");
        }
        return right;
    }

    /** No private method bears the name of a public one. */
    private static boolean areNamesApart() {
        Set<String> open = new TreeSet<>();
        for (Method method : BatchClasses.class.getMethods()) {
            open.add(method.getName());
        }
        boolean right = areNamesApart(BatchClasses.class, open);
        for (Class<?> inside : BatchClasses.class.getDeclaredClasses()) {
            right &= areNamesApart(inside, open);
        }
        return right;
    }

    private static boolean areNamesApart(Class<?> held, Set<String> open) {
        boolean right = true;
        for (Method method : held.getDeclaredMethods()) {
            if (Modifier.isPrivate(method.getModifiers()) && open.contains(method.getName())) {
                System.out.println("private " + method.getName() + " bears the name of a public method");
                right = false;
            }
        }
        return right;
    }
}
