import java.lang.reflect.Field;
import java.lang.reflect.Method;
import java.lang.reflect.Modifier;
import java.util.Set;
import java.util.TreeSet;

/** The public face of the document, no more and no less (rule 1 of the language). */
public final class FaceTest {
    private static final Set<String> METHODS = Set.of(
        "int add(int,int,int)", "int remove(int,int,int)", "int flip(int,int,int)", "int scatter(int,int,int)",
        "int combine(int,int,int,int)", "int shift(int,int)", "int size(int)", "int contains(int,int)",
        "int rank(int,int)", "int select(int,int)", "int near(int,int,boolean)", "int runs(int)", "int run(int,int)",
        "int piece(int,int,int)", "int bytes(int)", "int byteAt(int,int)", "int put(int)", "int clear()",
        "int read(int)", "int compare(int,int,int)", "int alike(int,int,boolean)", "int met(int,int)",
        "int converted(int,int)", "int undo()", "long fingerprint()");
    private static final Checks CHECKS = new Checks();

    private static String signature(Method method) {
        StringBuilder text = new StringBuilder(method.getReturnType().getName());
        text.append(' ').append(method.getName()).append('(');
        String comma = "";
        for (Class<?> type : method.getParameterTypes()) {
            text.append(comma).append(type.getName());
            comma = ",";
        }
        return text.append(')').toString();
    }

    private static void methods() {
        Set<String> found = new TreeSet<>();
        Set<String> names = new TreeSet<>();
        for (Method method : PieceSets.class.getDeclaredMethods()) {
            if (Modifier.isPublic(method.getModifiers())) {
                found.add(signature(method));
                names.add(method.getName());
                CHECKS.holds(method.getName() + " is of the object", !Modifier.isStatic(method.getModifiers()));
            }
        }
        CHECKS.holds("the public methods are " + found, found.equals(METHODS));
        for (Method method : PieceSets.class.getDeclaredMethods()) {
            if (!Modifier.isPublic(method.getModifiers())) {
                CHECKS.holds(method + " is private", Modifier.isPrivate(method.getModifiers()));
                CHECKS.holds(method + " has a name of its own", !names.contains(method.getName()));
            }
        }
        for (Class<?> inside : PieceSets.class.getDeclaredClasses()) {
            CHECKS.holds(inside + " is static", Modifier.isStatic(inside.getModifiers()));
            CHECKS.holds(inside + " is not public", !Modifier.isPublic(inside.getModifiers()));
            for (Method method : inside.getDeclaredMethods()) {
                boolean isPrivate = Modifier.isPrivate(method.getModifiers());
                CHECKS.holds(method + " has a name of its own", !isPrivate || !names.contains(method.getName()));
            }
        }
    }

    private static void fields() {
        Set<String> found = new TreeSet<>();
        for (Field field : PieceSets.class.getDeclaredFields()) {
            int modifiers = field.getModifiers();
            if (Modifier.isPublic(modifiers)) {
                found.add(field.getType() + " " + field.getName());
            } else {
                CHECKS.holds(field + " is private", Modifier.isPrivate(modifiers));
            }
        }
        CHECKS.holds("the constants are " + found, found.equals(Set.of("int BAD", "int FULL", "int NONE")));
        CHECKS.due("BAD", PieceSets.BAD, -1);
        CHECKS.due("FULL", PieceSets.FULL, -3);
        CHECKS.due("NONE", PieceSets.NONE, -9);
    }

    public static void main(String[] args) {
        int modifiers = PieceSets.class.getModifiers();
        CHECKS.holds("the class is public and final", Modifier.isPublic(modifiers) && Modifier.isFinal(modifiers));
        CHECKS.due("constructors", PieceSets.class.getDeclaredConstructors().length, 1);
        CHECKS.due("public constructors without arguments", PieceSets.class.getConstructors().length, 1);
        methods();
        fields();
        CHECKS.end();
    }
}
