import java.lang.reflect.Constructor;
import java.lang.reflect.Field;
import java.lang.reflect.Method;
import java.lang.reflect.Modifier;
import java.util.Set;
import java.util.TreeSet;

/** The public face: the class, its constructor, its constant and its methods, and no other visible member. */
public final class FaceTest {
    private static final String[] METHODS = {
        "int stock(long)", "int holder(int)", "boolean weight(int, int, long)", "boolean aside(int, long)",
        "boolean follows(int, int)", "int part(int)", "long given(int, int)", "boolean land(int, int, long, int, int)",
        "long left(int, int, int)", "int transfer(int, int, int, long)", "int swap(int, int, int, int, int, long)",
        "long over(int, int)", "long carried(int, int)", "boolean penalty(int, int)", "boolean into(int, int)",
        "long pooled(int, int)", "boolean owns(int, int, int)", "long hold(int, int)", "boolean cap(int, int)",
        "boolean capped(int)", "int choke(int)", "long closes(int, long)", "boolean seen(int, long, long)",
        "long discard(int)", "long told(int, int)", "boolean sums(int)",
    };

    public static void main(String[] args) {
        Class<?> face = CatchShares.class;
        Due.yes("the class is public and final",
            Modifier.isPublic(face.getModifiers()) && Modifier.isFinal(face.getModifiers()));
        constructors(face);
        constants(face);
        methods(face);
        for (Class<?> inside : face.getDeclaredClasses()) {
            Due.yes(inside + " is static and not public",
                Modifier.isStatic(inside.getModifiers()) && !Modifier.isPublic(inside.getModifiers()));
        }
        Due.end();
    }

    private static void constructors(Class<?> face) {
        Constructor<?>[] all = face.getDeclaredConstructors();
        Due.is("constructors", all.length, 1);
        Due.is("parameters of the constructor", all[0].getParameterCount(), 0);
        Due.yes("the constructor is public", Modifier.isPublic(all[0].getModifiers()));
    }

    private static void constants(Class<?> face) {
        Set<String> names = new TreeSet<>();
        for (Field field : face.getDeclaredFields()) {
            if (!Modifier.isPrivate(field.getModifiers())) {
                names.add(Modifier.toString(field.getModifiers()) + " " + field.getType() + " " + field.getName());
            }
        }
        Due.yes("constants " + names, names.equals(Set.of("public static final int NONE")));
    }

    private static void methods(Class<?> face) {
        Set<String> want = new TreeSet<>(Set.of(METHODS));
        Set<String> got = new TreeSet<>();
        Set<String> publicNames = new TreeSet<>();
        for (Method method : face.getDeclaredMethods()) {
            if (!Modifier.isPrivate(method.getModifiers())) {
                got.add(told(method));
                publicNames.add(method.getName());
                Due.is(method + " is public, not static", method.getModifiers(), Modifier.PUBLIC);
            }
        }
        Due.yes("methods " + got, got.equals(want));
        for (Method method : face.getDeclaredMethods()) {
            Due.no(method + " is private and bears a public name",
                Modifier.isPrivate(method.getModifiers()) && publicNames.contains(method.getName()));
        }
    }

    private static String told(Method method) {
        StringBuilder text = new StringBuilder();
        for (Class<?> type : method.getParameterTypes()) {
            text.append(text.length() == 0 ? "" : ", ").append(type);
        }
        return method.getReturnType() + " " + method.getName() + "(" + text + ")";
    }
}
