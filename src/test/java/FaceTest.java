import java.lang.reflect.Constructor;
import java.lang.reflect.Field;
import java.lang.reflect.Method;
import java.lang.reflect.Modifier;
import java.util.Arrays;
import java.util.HashSet;
import java.util.Set;
import java.util.TreeSet;

/** The face of the class: all that the document names, and nothing else that is not private. */
public final class FaceTest {
    private static final String[] FACE = {
        "int setLetter(int,int) IndexOutOfBoundsException,IllegalArgumentException",
        "int letter(int,int) IndexOutOfBoundsException",
        "boolean isFree()",
        "boolean isClear()",
        "int alike(int,int) IndexOutOfBoundsException",
        "int closest()",
        "int advise()",
        "int setKnotter(int,int) IllegalArgumentException",
        "int setFeel(int,int,int) IllegalArgumentException",
        "int setCosts(int,int) IllegalArgumentException",
        "int feed(int,int,int,int,int) IllegalStateException",
        "int trim(int) IllegalArgumentException",
        "int tie() IllegalStateException",
        "int cord(int,int) IndexOutOfBoundsException",
        "int knot(int,int) IndexOutOfBoundsException",
        "int retie(int,int,int) IndexOutOfBoundsException,IllegalArgumentException,IllegalStateException",
        "int distance(int,int) IndexOutOfBoundsException",
        "int nearest(int) IndexOutOfBoundsException",
        "int read(int) IndexOutOfBoundsException",
        "int byteAt(int) IndexOutOfBoundsException",
        "int count(int) IndexOutOfBoundsException",
        "double mean()",
        "long digest()",
    };

    public static void main(String[] args) {
        Set<String> due = new TreeSet<>(Arrays.asList(FACE));
        Set<String> names = new HashSet<>();
        Set<String> got = new TreeSet<>();
        for (Method method : KnotLetters.class.getDeclaredMethods()) {
            if (!Modifier.isPrivate(method.getModifiers())) {
                got.add(told(method));
                names.add(method.getName());
                Check.same(method.getName() + " is public and nothing else", method.getModifiers(), Modifier.PUBLIC);
            }
        }
        Check.sameText("the methods", String.join("\n", got), String.join("\n", due));
        for (Field field : KnotLetters.class.getDeclaredFields()) {
            Check.holds(field.getName() + " is private", Modifier.isPrivate(field.getModifiers()));
        }
        Check.same("constructors", KnotLetters.class.getDeclaredConstructors().length, 1);
        for (Constructor<?> constructor : KnotLetters.class.getDeclaredConstructors()) {
            Check.same("the constructor is public", constructor.getModifiers(), Modifier.PUBLIC);
            Check.same("the constructor takes nothing", constructor.getParameterCount(), 0);
        }
        Check.same("the class is public and final", KnotLetters.class.getModifiers(),
                Modifier.PUBLIC | Modifier.FINAL);
        inside(names);
        Check.end("FaceTest");
    }

    private static String told(Method method) {
        StringBuilder text = new StringBuilder(method.getReturnType().getName());
        text.append(' ').append(method.getName()).append('(');
        text.append(joined(method.getParameterTypes())).append(')');
        if (method.getExceptionTypes().length > 0) {
            text.append(' ').append(joined(method.getExceptionTypes()));
        }
        return text.toString();
    }

    private static String joined(Class<?>[] types) {
        return String.join(",", Arrays.stream(types).map(Class::getSimpleName).toArray(String[]::new));
    }

    /** The classes inside are private and static, and no method that is not of the face bears a name of the face. */
    private static void inside(Set<String> names) {
        for (Method method : KnotLetters.class.getDeclaredMethods()) {
            Check.fails(method.getName() + " is private and bears a name of the face",
                    Modifier.isPrivate(method.getModifiers()) && names.contains(method.getName()));
        }
        for (Class<?> part : KnotLetters.class.getDeclaredClasses()) {
            Check.holds(part + " is private", Modifier.isPrivate(part.getModifiers()));
            Check.holds(part + " is static", Modifier.isStatic(part.getModifiers()));
            for (Method method : part.getDeclaredMethods()) {
                Check.fails(part + " has a name of the face: " + method.getName(), names.contains(method.getName()));
            }
        }
    }
}
