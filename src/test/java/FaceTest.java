import java.lang.reflect.Constructor;
import java.lang.reflect.Field;
import java.lang.reflect.Method;
import java.lang.reflect.Modifier;
import java.util.Set;
import java.util.TreeSet;

/** The public face of the document, and that nothing else can be seen from outside. */
public final class FaceTest {
    private static final Set<String> FACE = Set.of("int feed(int, int, int, int, int)", "int end(int)", "int program(int)",
        "int fault(int)", "boolean word(int, int, int)", "void falls(boolean)", "int walk()", "int ends(int)",
        "int both(int, int)", "int outcome(int, int)", "int step(int)", "int missing(boolean, int, int)",
        "int statement(int, int, int)", "int about(int)");

    public static void main(String[] args) {
        methods();
        otherMembers();
        insideClasses();
        Check.finish();
    }

    private static void methods() {
        Set<String> face = new TreeSet<>();
        Set<String> names = new TreeSet<>();
        for (Method method : FarStore.class.getDeclaredMethods()) {
            if (Modifier.isPublic(method.getModifiers())) {
                String parameters = java.util.Arrays.toString(method.getParameterTypes());
                face.add(method.getReturnType() + " " + method.getName() + "("
                    + parameters.substring(1, parameters.length() - 1) + ")");
                names.add(method.getName());
            } else {
                Check.due(method + " is private", true, Modifier.isPrivate(method.getModifiers()));
            }
        }
        Check.due("the face: " + face, true, face.equals(FACE));
        Check.due("no private method bears a public one's name", 0, namesakes(FarStore.class, names));
        for (Class<?> inside : FarStore.class.getDeclaredClasses()) {
            Check.due("nor one of " + inside, 0, namesakes(inside, names));
        }
    }

    private static long namesakes(Class<?> where, Set<String> names) {
        long count = 0;
        for (Method method : where.getDeclaredMethods()) {
            boolean isFace = where == FarStore.class && Modifier.isPublic(method.getModifiers());
            count += !isFace && names.contains(method.getName()) ? 1 : 0;
        }
        return count;
    }

    private static void otherMembers() {
        Check.due("the class is public and final", Modifier.PUBLIC | Modifier.FINAL, FarStore.class.getModifiers());
        for (Field field : FarStore.class.getDeclaredFields()) {
            boolean isNone = field.getName().equals("NONE");
            Check.due(field.toString(), isNone, Modifier.isPublic(field.getModifiers()));
            Check.due(field.toString(), !isNone, Modifier.isPrivate(field.getModifiers()));
        }
        Constructor<?>[] constructors = FarStore.class.getDeclaredConstructors();
        Check.due("constructors", 1, constructors.length);
        Check.due("the constructor is public", true, Modifier.isPublic(constructors[0].getModifiers()));
        Check.due("the constructor's parameters", 0, constructors[0].getParameterCount());
    }

    private static void insideClasses() {
        Class<?>[] inside = FarStore.class.getDeclaredClasses();
        Check.due("at most twelve classes", true, inside.length < 12);
        for (Class<?> one : inside) {
            int modifiers = one.getModifiers();
            Check.due(one + " is static", true, Modifier.isStatic(modifiers));
            Check.due(one + " is not public", false, Modifier.isPublic(modifiers) || Modifier.isProtected(modifiers));
        }
    }
}
