import java.lang.reflect.Constructor;
import java.lang.reflect.Field;
import java.lang.reflect.Method;
import java.lang.reflect.Modifier;
import java.util.Arrays;
import java.util.Set;
import java.util.TreeSet;

/** The public face: just what the document names. */
public final class FaceTest {
    private static final String[] FACE = {
        "boolean change(int,int)", "boolean cut(int,int)", "boolean keep(int)", "boolean push(int)",
        "boolean put(int,int,int)", "boolean same()", "boolean shape(int,int)", "int apply()",
        "int at(int,int)", "int count(int)", "int delta()", "int digest(int,int)", "int feed(int,int)",
        "int md5(int,int)", "int sign()", "int size(int)", "int sum(int)", "int sumAt(int,int,int)"
    };

    public static void main(String[] args) {
        Due.due("NONE", DeltaSync.NONE, -1);
        Due.due("BAD", DeltaSync.BAD, -2);
        int flags = DeltaSync.class.getModifiers();
        Due.due("public final", Modifier.isPublic(flags) && Modifier.isFinal(flags), true);
        Set<String> seen = new TreeSet<>();
        Set<String> names = new TreeSet<>();
        for (Method m : DeltaSync.class.getDeclaredMethods()) {
            if (!Modifier.isPrivate(m.getModifiers()) && !m.isSynthetic()) {
                seen.add(told(m));
                names.add(m.getName());
                Due.due(m.getName() + " is public", Modifier.isPublic(m.getModifiers()), true);
                Due.due(m.getName() + " is static", Modifier.isStatic(m.getModifiers()), false);
            }
        }
        Due.due("methods " + seen, seen.equals(new TreeSet<>(Arrays.asList(FACE))), true);
        for (Method m : DeltaSync.class.getDeclaredMethods()) {
            if (Modifier.isPrivate(m.getModifiers())) {
                Due.due("private " + m.getName() + " has a name of its own", names.contains(m.getName()), false);
            }
        }
        for (Field f : DeltaSync.class.getDeclaredFields()) {
            boolean constant = f.getName().equals("NONE") || f.getName().equals("BAD");
            Due.due("field " + f.getName() + " is private", Modifier.isPrivate(f.getModifiers()), !constant);
        }
        Constructor<?>[] made = DeltaSync.class.getDeclaredConstructors();
        Due.due("constructors", made.length, 1);
        Due.due("constructor's parameters", made[0].getParameterCount(), 0);
        Due.due("constructor is public", Modifier.isPublic(made[0].getModifiers()), true);
        Due.end("FaceTest");
    }

    private static String told(Method m) {
        StringBuilder all = new StringBuilder(m.getReturnType().getName()).append(' ').append(m.getName()).append('(');
        for (int i = 0; i < m.getParameterCount(); i++) {
            all.append(i == 0 ? "" : ",").append(m.getParameterTypes()[i].getName());
        }
        return all.append(')').toString();
    }
}
