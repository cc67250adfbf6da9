import java.lang.reflect.Constructor;
import java.lang.reflect.Field;
import java.lang.reflect.Method;
import java.lang.reflect.Modifier;
import java.util.HashSet;
import java.util.Set;
import java.util.TreeSet;

/** The face of the document, no more and no less. */
final class FaceTest {
    private static final String INDEX = " IndexOutOfBoundsException";
    private static final String ARGUMENT = " IllegalArgumentException";
    private static final String STATE = " IllegalStateException";

    private static final String[] FACE = {
        "int read(int)" + INDEX + STATE,
        "int write(int,int)" + INDEX + ARGUMENT + STATE,
        "int fail(int)" + INDEX + STATE,
        "int beginMending(int)" + INDEX + STATE,
        "int mend(int)" + ARGUMENT,
        "int addSpare()" + STATE,
        "int corrupt(int,int,int)" + INDEX + ARGUMENT + STATE,
        "int scrub()",
        "int state(int)" + INDEX,
        "int member(int,int)" + INDEX,
        "int stripeAt(int,int)" + INDEX,
        "int place(int,int)" + INDEX,
        "int unit(int,int)" + INDEX,
        "int peek(int)" + INDEX,
        "int lost()",
        "int wrong()",
        "int spares()",
        "int losses()",
        "int reads(int)" + INDEX,
        "int writes(int)" + INDEX,
        "double balance()",
        "int lostIfFailed(int)" + INDEX,
        "int loadOf(int,int)" + INDEX,
        "int worst()",
        "int append(int)" + ARGUMENT + STATE,
        "int clearText()",
        "int firstError()",
        "int run()" + ARGUMENT,
        "int undo()" + STATE,
        "int savedStates()",
        "long digest()",
    };

    private FaceTest() {
    }

    public static void main(String[] args) {
        Class<?> type = SpreadParity.class;
        Check.holds("the class is public and final", type.getModifiers() == (Modifier.PUBLIC | Modifier.FINAL));
        Check.same("NONE", SpreadParity.NONE, -1);
        methods(type);
        fields(type);
        constructors(type);
        for (Class<?> inner : type.getDeclaredClasses()) {
            int how = inner.getModifiers();
            Check.holds(inner + " is static and not public", Modifier.isStatic(how) && !Modifier.isPublic(how));
        }
        Check.end("FaceTest");
    }

    private static void methods(Class<?> type) {
        Set<String> due = new TreeSet<>(Set.of(FACE));
        Set<String> names = new HashSet<>();
        Set<String> got = new TreeSet<>();
        for (Method method : type.getDeclaredMethods()) {
            if (Modifier.isPublic(method.getModifiers())) {
                got.add(signature(method));
                names.add(method.getName());
            }
        }
        Check.same("the public methods", got.toString(), due.toString());
        for (Method method : type.getDeclaredMethods()) {
            int how = method.getModifiers();
            Check.holds(method + " is public or private", Modifier.isPublic(how) || Modifier.isPrivate(how));
            Check.holds(method + " has a name of its own",
                    Modifier.isPublic(how) || !names.contains(method.getName()));
        }
    }

    private static String signature(Method method) {
        StringBuilder line = new StringBuilder(method.getReturnType().getName());
        line.append(' ').append(method.getName()).append('(');
        String comma = "";
        for (Class<?> parameter : method.getParameterTypes()) {
            line.append(comma).append(parameter.getName());
            comma = ",";
        }
        line.append(')');
        for (Class<?> thrown : method.getExceptionTypes()) {
            line.append(' ').append(thrown.getSimpleName());
        }
        return line.toString();
    }

    private static void fields(Class<?> type) {
        for (Field field : type.getDeclaredFields()) {
            int how = field.getModifiers();
            boolean isFace = field.getName().equals("NONE") && Modifier.isPublic(how);
            Check.holds(field + " is of the face or private", isFace || Modifier.isPrivate(how));
            Check.holds(field + " is final if static", !Modifier.isStatic(how) || Modifier.isFinal(how));
        }
    }

    private static void constructors(Class<?> type) {
        Constructor<?>[] made = type.getDeclaredConstructors();
        Check.same("the number of constructors", made.length, 1);
        Check.holds("the constructor is public", Modifier.isPublic(made[0].getModifiers()));
        Check.same("the number of its parameters", made[0].getParameterCount(), 0);
    }
}
