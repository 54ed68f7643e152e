import java.lang.reflect.Constructor;
import java.lang.reflect.Field;
import java.lang.reflect.Method;
import java.lang.reflect.Modifier;
import java.util.Arrays;
import java.util.Set;
import java.util.TreeSet;
import java.util.stream.Collectors;

/** The public face of the document: all of it, and no other member that is not private. */
public final class FaceTest {
    private static final String[] FACE = {
        "int declare(long, int, boolean) throws IllegalArgumentException, IndexOutOfBoundsException, IllegalStateException",
        "int member(int, long, long, boolean) throws IndexOutOfBoundsException, IllegalArgumentException, IllegalStateException",
        "void moveClass(int, long) throws IndexOutOfBoundsException, IllegalArgumentException",
        "int movePackage(long, long) throws IllegalArgumentException",
        "int moveMember(int, int, long) throws IndexOutOfBoundsException, IllegalArgumentException",
        "int problem()",
        "int apply() throws IllegalStateException",
        "int cancel()",
        "int classes()",
        "long className(int, boolean) throws IndexOutOfBoundsException",
        "long memberName(int, int, boolean) throws IndexOutOfBoundsException",
        "int find(int, long, long) throws IndexOutOfBoundsException, NoSuchElementException",
        "int write(int) throws IndexOutOfBoundsException",
        "int byteAt(int) throws IndexOutOfBoundsException",
        "void poke(int, int) throws IndexOutOfBoundsException, IllegalArgumentException",
        "int load() throws IllegalStateException, IllegalArgumentException",
    };

    public static void main(String[] args) {
        Checks checks = new Checks();
        Set<String> found = new TreeSet<>();
        Set<String> publicNames = new TreeSet<>();
        for (Method method : NameMover.class.getDeclaredMethods()) {
            if (!Modifier.isPrivate(method.getModifiers()) && !method.isSynthetic()) {
                found.add(told(method));
                publicNames.add(method.getName());
                checks.compare(method.getName() + " is public", "true",
                        String.valueOf(Modifier.isPublic(method.getModifiers())));
            }
        }
        checks.compare("the methods", new TreeSet<>(Arrays.asList(FACE)).toString(), found.toString());
        for (Method method : NameMover.class.getDeclaredMethods()) {
            if (Modifier.isPrivate(method.getModifiers())) {
                checks.compare(method.getName() + " has a public one's name", "false",
                        String.valueOf(publicNames.contains(method.getName())));
            }
        }
        for (Field field : NameMover.class.getDeclaredFields()) {
            checks.compare(field.getName() + " is private", "true",
                    String.valueOf(Modifier.isPrivate(field.getModifiers())));
        }
        Constructor<?>[] constructors = NameMover.class.getDeclaredConstructors();
        checks.compare("the constructors", "[public NameMover()]", Arrays.toString(constructors));
        checks.compare("the class", "public final", Modifier.toString(NameMover.class.getModifiers()));
        checks.end();
    }

    private static String told(Method method) {
        String thrown = names(method.getExceptionTypes());
        return method.getReturnType() + " " + method.getName() + "(" + names(method.getParameterTypes()) + ")"
                + (thrown.isEmpty() ? "" : " throws " + thrown);
    }

    private static String names(Class<?>[] types) {
        return Arrays.stream(types).map(Class::getSimpleName).collect(Collectors.joining(", "));
    }
}
