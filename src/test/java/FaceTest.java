import java.lang.reflect.Constructor;
import java.lang.reflect.Field;
import java.lang.reflect.Method;
import java.lang.reflect.Modifier;
import java.util.ArrayList;
import java.util.Arrays;
import java.util.List;
import java.util.Set;
import java.util.TreeSet;

/** The class shows the document's face and nothing else. */
public final class FaceTest {
    private static final Set<String> FACE = Set.of(
            "int group(int) IA IS",
            "int move(int,int) IA",
            "int user(int) IA IS",
            "int terminal(int,int) IA",
            "int revoke(int,boolean) IA",
            "int pass(int,boolean) IA",
            "int mode(int,int) IA",
            "int profile(int,int) IA IS",
            "int name(int,int) IA IS",
            "int universal(int,int,int) IA",
            "int permit(int,int,int) IA IS",
            "int condition(int,int,int,int) IA",
            "int ask(int)",
            "int may(int,int,int,long) IA",
            "int matched()",
            "int audit(int,int)",
            "int who(int,int) IA",
            "boolean acts(int,int) IA",
            "int surrogate(int,int,boolean) IA",
            "int count(int)");

    private FaceTest() {
    }

    public static void main(String[] args) throws ReflectiveOperationException {
        Class<ProfileRights> face = ProfileRights.class;
        Check.same("public and final", Check.told(
                face.getModifiers() == (Modifier.PUBLIC | Modifier.FINAL)), 1);
        Set<String> shown = new TreeSet<>();
        Set<String> names = new TreeSet<>();
        for (Method m : face.getDeclaredMethods()) {
            if (!Modifier.isPrivate(m.getModifiers())) {
                shown.add(text(m));
                names.add(m.getName());
                Check.same(m.getName() + " is public and of the object", m.getModifiers(), Modifier.PUBLIC);
            }
        }
        Check.same("methods shown: " + shown, Check.told(shown.equals(FACE)), 1);
        for (Method m : face.getDeclaredMethods()) {
            Check.same("a private method is named " + m.getName(), Check.told(
                    Modifier.isPrivate(m.getModifiers()) && names.contains(m.getName())), 0);
        }
        fields(face);
        Constructor<?>[] makers = face.getDeclaredConstructors();
        Check.same("one constructor", makers.length, 1);
        Check.same("public, without parameters", Check.told(makers[0].getParameterCount() == 0
                && makers[0].getModifiers() == Modifier.PUBLIC), 1);
        for (Class<?> inner : face.getDeclaredClasses()) {
            Check.same(inner.getName() + " is static", Check.told(
                    Modifier.isStatic(inner.getModifiers())
                    && !Modifier.isPublic(inner.getModifiers())
                    && !Modifier.isProtected(inner.getModifiers())), 1);
        }
        Check.end("FaceTest");
    }

    private static void fields(Class<?> face) throws IllegalAccessException {
        List<String> shown = new ArrayList<>();
        for (Field f : face.getDeclaredFields()) {
            int m = f.getModifiers();
            if (!Modifier.isPrivate(m)) {
                shown.add(f.getName());
                Check.same("modifiers of " + f.getName(), m,
                        Modifier.PUBLIC | Modifier.STATIC | Modifier.FINAL);
                Check.same("value of " + f.getName(), f.getInt(null), -1);
            }
            Check.same(f.getName() + " is final if static", Check.told(
                    !Modifier.isStatic(m) || Modifier.isFinal(m)), 1);
        }
        Check.same("fields shown: " + shown, Check.told(shown.equals(List.of("NONE"))), 1);
    }

    private static String text(Method m) {
        String types = Arrays.stream(m.getParameterTypes()).map(Class::getName)
                .reduce((a, b) -> a + "," + b).orElse("");
        StringBuilder s = new StringBuilder();
        s.append(m.getReturnType().getName()).append(' ').append(m.getName());
        s.append('(').append(types).append(')');
        for (Class<?> thrown : m.getExceptionTypes()) {
            s.append(thrown == IllegalArgumentException.class ? " IA"
                    : thrown == IllegalStateException.class ? " IS" : " other");
        }
        return s.toString();
    }
}
