import java.lang.reflect.Constructor;
import java.lang.reflect.Field;
import java.lang.reflect.Method;
import java.lang.reflect.Modifier;
import java.util.Arrays;
import java.util.Set;
import java.util.TreeSet;

/** The public face of the document: all of it, and no other member that is not private. */
public final class FaceTest {
    private static final String[] FACE = {
        "int declare(long, int, boolean)",
        "int member(int, long, long, boolean)",
        "void moveClass(int, long)",
        "int movePackage(long, long)",
        "int moveMember(int, int, long)",
        "int problem()",
        "int apply()",
        "int cancel()",
        "int classes()",
        "long className(int, boolean)",
        "long memberName(int, int, boolean)",
        "int find(int, long, long)",
        "int write(int)",
        "int byteAt(int)",
        "void poke(int, int)",
        "int load()",
    };

    public static void main(String[] args) {
        Checks checks = new Checks();
        Set<String> found = new TreeSet<>();
        Set<String> publicNames = new TreeSet<>();
        for (Method method : NameMover.class.getDeclaredMethods()) {
            if (!Modifier.isPrivate(method.getModifiers()) && !method.isSynthetic()) {
                found.add(told(method));
                publicNames.add(method.getName());
                checks.compare(method.getName() + " is public", "true",
                        String.valueOf(Modifier.isPublic(method.getModifiers())));
            }
        }
        checks.compare("the methods", new TreeSet<>(Arrays.asList(FACE)).toString(), found.toString());
        for (Method method : NameMover.class.getDeclaredMethods()) {
            if (Modifier.isPrivate(method.getModifiers())) {
                checks.compare(method.getName() + " has a public one's name", "false",
                        String.valueOf(publicNames.contains(method.getName())));
            }
        }
        for (Field field : NameMover.class.getDeclaredFields()) {
            checks.compare(field.getName() + " is private", "true",
                    String.valueOf(Modifier.isPrivate(field.getModifiers())));
        }
        Constructor<?>[] constructors = NameMover.class.getDeclaredConstructors();
        checks.compare("the constructors", "[public NameMover()]", Arrays.toString(constructors));
        checks.compare("the class", "public final", Modifier.toString(NameMover.class.getModifiers()));
        checks.end();
    }

    private static String told(Method method) {
        String parameters = Arrays.toString(method.getParameterTypes());
        return method.getReturnType() + " " + method.getName() + "(" + parameters.substring(1, parameters.length() - 1) + ")";
    }
}
