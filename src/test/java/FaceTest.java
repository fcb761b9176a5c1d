import java.lang.reflect.Constructor;
import java.lang.reflect.Field;
import java.lang.reflect.Method;
import java.lang.reflect.Modifier;
import java.util.Arrays;
import java.util.Set;
import java.util.TreeSet;

/** The public face is the document's and no other, as LANGUAGE.md's rules 1 and 5 ask. */
public final class FaceTest {
    private static final String[] FACE = {
        "long give(int,int,int)", "long balance(int,int)", "int mint(int,int,int,int,int)",
        "int burn(int,int,int,int,int)", "long collect(int,int,int,int)",
        "long swap(int,int,boolean,int,int)", "long route(int,int,int)", "long paid()",
        "long price(int)", "int tick(int)", "int liquidity(int)", "long growth(int,int)",
        "long position(int,int,int,int,int)", "long held(int)"};

    public static void main(String[] args) {
        Class<RangeExchange> face = RangeExchange.class;
        Check.holds("public final", Modifier.isPublic(face.getModifiers())
                && Modifier.isFinal(face.getModifiers()));
        methodsAreTheDocuments(face);
        Constructor<?>[] made = face.getDeclaredConstructors();
        Check.same("constructors", Arrays.toString(made), "[public RangeExchange(int,int)]");
        fieldsArePrivate(face);
        for (Class<?> inside : face.getDeclaredClasses()) {
            Check.holds(inside + " is static", Modifier.isStatic(inside.getModifiers()));
            Check.holds(inside + " is not public", !Modifier.isPublic(inside.getModifiers()));
            fieldsArePrivate(inside);
        }
        Check.finish("FaceTest");
    }

    private static void methodsAreTheDocuments(Class<?> face) {
        Set<String> shown = new TreeSet<>();
        Set<String> names = new TreeSet<>();
        for (Method m : face.getDeclaredMethods()) {
            if (!Modifier.isPrivate(m.getModifiers())) {
                shown.add(text(m));
                names.add(m.getName());
                Check.holds(m + " is public", Modifier.isPublic(m.getModifiers()));
            }
        }
        Check.same("methods", shown.toString(), new TreeSet<>(Arrays.asList(FACE)).toString());
        for (Method m : face.getDeclaredMethods()) {
            Check.holds("no private method has the name " + m.getName(),
                    !Modifier.isPrivate(m.getModifiers()) || !names.contains(m.getName()));
        }
    }

    private static String text(Method m) {
        StringBuilder s = new StringBuilder(m.getReturnType().getName());
        s.append(' ').append(m.getName()).append('(');
        Class<?>[] types = m.getParameterTypes();
        for (int i = 0; i < types.length; i++) {
            s.append(i == 0 ? "" : ",").append(types[i].getName());
        }
        return s.append(')').toString();
    }

    private static void fieldsArePrivate(Class<?> c) {
        for (Field f : c.getDeclaredFields()) {
            Check.holds(f + " is private", Modifier.isPrivate(f.getModifiers()));
            Check.holds(f + " is final if static",
                    !Modifier.isStatic(f.getModifiers()) || Modifier.isFinal(f.getModifiers()));
        }
    }
}
