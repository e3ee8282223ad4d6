import java.lang.reflect.Constructor;
import java.lang.reflect.Field;
import java.lang.reflect.Method;
import java.lang.reflect.Modifier;
import java.util.Arrays;
import java.util.Set;
import java.util.TreeSet;

/** The class shows the face of the document and nothing else (LANGUAGE.md, rule 1). */
public final class FaceTest {
    private static final String ILLEGAL_ARGUMENT = "IllegalArgumentException";
    private static final String ILLEGAL_STATE = "IllegalStateException";
    private static final String NO_SUCH = "NoSuchElementException";

    public static void main(String[] args) {
        methodsAreThoseOfTheDocument();
        nothingElseIsVisible();
        noPrivateMethodBearsAPublicName();
        Check.end();
    }

    private static void methodsAreThoseOfTheDocument() {
        Set<String> due = new TreeSet<>(Arrays.asList(
            "int block()" + thrown(ILLEGAL_STATE),
            "int put(int,int,int,int,int)" + thrown(ILLEGAL_ARGUMENT, ILLEGAL_STATE),
            "void go(int,int)" + thrown(ILLEGAL_ARGUMENT),
            "void fork(int,int,int,int)" + thrown(ILLEGAL_ARGUMENT),
            "void stop(int)" + thrown(ILLEGAL_ARGUMENT),
            "void clear()" + thrown(),
            "int build()" + thrown(ILLEGAL_STATE),
            "int look(int,int)" + thrown(NO_SUCH, ILLEGAL_STATE),
            "int phi(int,int,int)" + thrown(NO_SUCH, ILLEGAL_STATE),
            "int uses(int,int,int)" + thrown(NO_SUCH, ILLEGAL_STATE),
            "int name(int,int)" + thrown(NO_SUCH, ILLEGAL_STATE),
            "boolean give(int)" + thrown(),
            "void take()" + thrown(),
            "int run(boolean,int)" + thrown(ILLEGAL_ARGUMENT, ILLEGAL_STATE),
            "int told()" + thrown(),
            "int heard(int)" + thrown(NO_SUCH),
            "int spent(int)" + thrown()));
        Set<String> got = new TreeSet<>();
        for (Method m : NameForge.class.getDeclaredMethods()) {
            if (Modifier.isPublic(m.getModifiers())) {
                got.add(describe(m));
            }
        }
        Check.holds("the public methods " + got + " are " + due, got.equals(due));
    }

    private static String describe(Method m) {
        StringBuilder text = new StringBuilder(m.getReturnType().getSimpleName());
        text.append(' ').append(m.getName()).append('(');
        String comma = "";
        for (Class<?> type : m.getParameterTypes()) {
            text.append(comma).append(type.getSimpleName());
            comma = ",";
        }
        String[] names = Arrays.stream(m.getExceptionTypes()).map(Class::getSimpleName).toArray(String[]::new);
        return text.append(')').append(thrown(names)).toString();
    }

    private static String thrown(String... names) {
        return " throws " + String.join(",", names);
    }

    private static void nothingElseIsVisible() {
        int kind = NameForge.class.getModifiers();
        Check.holds("the class is public and final", Modifier.isPublic(kind) && Modifier.isFinal(kind));
        for (Field f : NameForge.class.getDeclaredFields()) {
            Check.holds("field " + f.getName() + " is private", Modifier.isPrivate(f.getModifiers()));
            Check.holds("field " + f.getName() + " is final if static",
                !Modifier.isStatic(f.getModifiers()) || Modifier.isFinal(f.getModifiers()));
        }
        for (Method m : NameForge.class.getDeclaredMethods()) {
            int is = m.getModifiers();
            Check.holds("method " + m.getName() + " is public or private",
                Modifier.isPublic(is) || Modifier.isPrivate(is));
        }
        Constructor<?>[] made = NameForge.class.getDeclaredConstructors();
        Check.same("constructors", made.length, 1);
        Check.holds("the constructor is public, without parameters",
            Modifier.isPublic(made[0].getModifiers()) && made[0].getParameterCount() == 0);
        for (Class<?> c : NameForge.class.getDeclaredClasses()) {
            Check.holds("class " + c.getName() + " is static and not public",
                Modifier.isStatic(c.getModifiers()) && !Modifier.isPublic(c.getModifiers()));
        }
    }

    private static void noPrivateMethodBearsAPublicName() {
        Set<String> publicNames = new TreeSet<>();
        for (Method m : NameForge.class.getDeclaredMethods()) {
            if (Modifier.isPublic(m.getModifiers())) {
                publicNames.add(m.getName());
            }
        }
        Check.same("public names", publicNames.size(), 17);
        for (Method m : NameForge.class.getDeclaredMethods()) {
            Check.holds("the private method " + m.getName() + " bears no public name",
                Modifier.isPublic(m.getModifiers()) || !publicNames.contains(m.getName()));
        }
        for (Class<?> c : NameForge.class.getDeclaredClasses()) {
            for (Method m : c.getDeclaredMethods()) {
                Check.holds(c.getSimpleName() + "." + m.getName() + " bears no public name",
                    !publicNames.contains(m.getName()));
            }
        }
    }
}
