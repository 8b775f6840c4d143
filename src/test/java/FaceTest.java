import java.lang.reflect.Constructor;
import java.lang.reflect.Field;
import java.lang.reflect.Method;
import java.lang.reflect.Modifier;
import java.util.Set;
import java.util.TreeSet;

/** The public face: just the members that the document names, with their exceptions. */
public final class FaceTest {
    private static final String[] DUE = {
        "public static final int NONE",
        "public MountYard()",
        "public void feed(long, int) IllegalArgumentException UnsupportedOperationException",
        "public int serve() UnsupportedOperationException NoSuchElementException",
        "public int size(boolean)",
        "public int out(int) IndexOutOfBoundsException",
        "public boolean drop(int)",
        "public int handles()",
        "public int about(int, int) IndexOutOfBoundsException",
        "public int data(int, int) IndexOutOfBoundsException",
        "public int files()",
        "public boolean type(long, int)",
        "public void clear()",
        "public int look(int) IllegalArgumentException NoSuchElementException",
        "public int member(int, int) IllegalArgumentException NoSuchElementException"
                + " IndexOutOfBoundsException",
        "public int bind(int, int) IllegalArgumentException NoSuchElementException"
                + " IllegalStateException UnsupportedOperationException",
        "public int unbind(int) IllegalArgumentException NoSuchElementException",
        "public boolean fork(int, int, boolean)",
    };

    public static void main(String[] args) {
        Set<String> found = new TreeSet<>();
        Set<String> open = new TreeSet<>();
        for (Field field : MountYard.class.getDeclaredFields()) {
            if (!Modifier.isPrivate(field.getModifiers())) {
                found.add(Modifier.toString(field.getModifiers()) + " int " + field.getName());
            }
        }
        for (Constructor<?> made : MountYard.class.getDeclaredConstructors()) {
            found.add(Modifier.toString(made.getModifiers()) + " MountYard"
                    + words(made.getParameterTypes(), made.getExceptionTypes()));
        }
        for (Method method : MountYard.class.getDeclaredMethods()) {
            if (!Modifier.isPrivate(method.getModifiers())) {
                found.add(Modifier.toString(method.getModifiers()) + " " + method.getReturnType()
                        + " " + method.getName()
                        + words(method.getParameterTypes(), method.getExceptionTypes()));
                open.add(method.getName());
            }
        }
        Check.same("the face", found.toString(), new TreeSet<>(Set.of(DUE)).toString());
        Check.same("NONE", MountYard.NONE, -1);
        Check.is("final", Modifier.isFinal(MountYard.class.getModifiers()));
        noHiddenNamesake(open);
        Check.end();
    }

    private static void noHiddenNamesake(Set<String> open) {
        for (Class<?> inside : MountYard.class.getDeclaredClasses()) {
            for (Method method : inside.getDeclaredMethods()) {
                Check.is(inside + "." + method.getName() + " has a name of its own",
                        !open.contains(method.getName()));
            }
            Check.is(inside + " is static", Modifier.isStatic(inside.getModifiers()));
        }
        for (Method method : MountYard.class.getDeclaredMethods()) {
            Check.is(method.getName() + " has a name of its own",
                    !Modifier.isPrivate(method.getModifiers()) || !open.contains(method.getName()));
        }
    }

    private static String words(Class<?>[] taken, Class<?>[] thrown) {
        StringBuilder made = new StringBuilder("(");
        for (int i = 0; i < taken.length; i++) {
            made.append(i == 0 ? "" : ", ").append(taken[i].getSimpleName());
        }
        made.append(")");
        for (Class<?> one : thrown) {
            made.append(" ").append(one.getSimpleName());
        }
        return made.toString();
    }
}
