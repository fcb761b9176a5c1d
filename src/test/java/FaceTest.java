import java.lang.reflect.Constructor;
import java.lang.reflect.Field;
import java.lang.reflect.Method;
import java.lang.reflect.Modifier;
import java.util.Arrays;
import java.util.Set;
import java.util.TreeSet;

/** The public face is the document's and no other, as LANGUAGE.md's rules 1 and 5 ask. */
public final class FaceTest {
    private static final String INDEX = " throws IndexOutOfBoundsException";
    private static final String ARGUMENT = " IllegalArgumentException";
    private static final String NONE = " NoSuchElementException";
    private static final String STATE = " IllegalStateException";
    private static final String[] FACE = {
        "long give(int,int,int)" + INDEX + ARGUMENT, "long balance(int,int)" + INDEX,
        "int mint(int,int,int,int,int)" + INDEX + ARGUMENT + STATE,
        "int burn(int,int,int,int,int)" + INDEX + ARGUMENT + NONE + STATE,
        "long collect(int,int,int,int)" + INDEX + NONE,
        "long swap(int,int,boolean,int,int)" + INDEX + ARGUMENT + STATE,
        "long route(int,int,int)" + INDEX + ARGUMENT + STATE, "long paid()",
        "long price(int)" + INDEX, "int tick(int)" + INDEX, "int liquidity(int)" + INDEX,
        "long growth(int,int)" + INDEX, "long position(int,int,int,int,int)", "long held(int)" + INDEX};

    public static void main(String[] args) {
        Class<RangeExchange> face = RangeExchange.class;
        Check.holds("public final", Modifier.isPublic(face.getModifiers())
                && Modifier.isFinal(face.getModifiers()));
        methodsAreTheDocuments(face);
        Constructor<?>[] made = face.getDeclaredConstructors();
        Check.same("constructors", Arrays.toString(made), "[public RangeExchange(int,int)]");
        fieldsArePrivate(face);
        for (Class<?> inside : face.getDeclaredClasses()) {
            Check.holds(inside + " is static", Modifier.isStatic(inside.getModifiers()));
            Check.holds(inside + " is not public", !Modifier.isPublic(inside.getModifiers()));
            fieldsArePrivate(inside);
        }
        Check.finish("FaceTest");
    }

    private static void methodsAreTheDocuments(Class<?> face) {
        Set<String> shown = new TreeSet<>();
        Set<String> names = new TreeSet<>();
        for (Method m : face.getDeclaredMethods()) {
            if (!Modifier.isPrivate(m.getModifiers())) {
                shown.add(text(m));
                names.add(m.getName());
                Check.holds(m + " is public", Modifier.isPublic(m.getModifiers()));
            }
        }
        Check.same("methods", shown.toString(), new TreeSet<>(Arrays.asList(FACE)).toString());
        for (Method m : face.getDeclaredMethods()) {
            Check.holds("no private method has the name " + m.getName(),
                    !Modifier.isPrivate(m.getModifiers()) || !names.contains(m.getName()));
        }
    }

    private static String text(Method m) {
        StringBuilder s = new StringBuilder(m.getReturnType().getName());
        s.append(' ').append(m.getName()).append('(');
        Class<?>[] types = m.getParameterTypes();
        for (int i = 0; i < types.length; i++) {
            s.append(i == 0 ? "" : ",").append(types[i].getName());
        }
        s.append(')');
        Class<?>[] thrown = m.getExceptionTypes();
        for (int i = 0; i < thrown.length; i++) {
            s.append(i == 0 ? " throws " : " ").append(thrown[i].getSimpleName());
        }
        return s.toString();
    }

    private static void fieldsArePrivate(Class<?> c) {
        for (Field f : c.getDeclaredFields()) {
            Check.holds(f + " is private", Modifier.isPrivate(f.getModifiers()));
            Check.holds(f + " is final if static",
                    !Modifier.isStatic(f.getModifiers()) || Modifier.isFinal(f.getModifiers()));
        }
    }
}
