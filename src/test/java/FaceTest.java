import java.lang.reflect.Constructor;
import java.lang.reflect.Field;
import java.lang.reflect.Method;
import java.lang.reflect.Modifier;
import java.util.Set;
import java.util.TreeSet;

/** The public face: each constant, constructor and method of the document, and no other member that can be seen. */
public final class FaceTest {
    private static final String[] FACE = {
        "int write(int)", "int wipe()", "int fault()", "int code()", "int about(int)", "int bit(int,int)",
        "int check(int)", "int message(int,int)", "int level(int,int)", "int begin()", "int round(int)",
        "int put(int,int)", "int grow(int,int)", "int offset(int)", "int undo()", "int traps(int,int,int)",
        "int same(int)", "int judge(int,long)", "int see(int,int)", "int unsee()", "int which()",
        "int share(int,boolean)", "int chance(int,int,boolean)", "long seed(long)", "int drawn(int)", "int keep(int)",
        "int again(int)"
    };

    public static void main(String[] args) {
        Class<?> face = SparseChecks.class;
        Due.is("public final", face.getModifiers() & (Modifier.PUBLIC | Modifier.FINAL), Modifier.PUBLIC | Modifier.FINAL);
        Set<String> due = new TreeSet<>(Set.of(FACE));
        Set<String> found = new TreeSet<>();
        Set<String> names = new TreeSet<>();
        for (Method method : face.getDeclaredMethods()) {
            if (!Modifier.isPrivate(method.getModifiers())) {
                Due.holds("public, not static: " + method, (method.getModifiers() & ~Modifier.PUBLIC) == 0);
                found.add(told(method));
                names.add(method.getName());
            }
        }
        Due.holds("methods " + found, found.equals(due));
        checkHidden(face, names);
        for (Class<?> inside : face.getDeclaredClasses()) {
            int modifiers = inside.getModifiers();
            Due.holds("static: " + inside, Modifier.isStatic(modifiers));
            Due.holds("not shown: " + inside, (modifiers & (Modifier.PUBLIC | Modifier.PROTECTED)) == 0);
            checkHidden(inside, names);
        }
        Due.holds("twelve classes at most", face.getDeclaredClasses().length < 12);
        Constructor<?>[] made = face.getDeclaredConstructors();
        Due.is("constructors", made.length, 1);
        Due.is("its parameters", made[0].getParameterCount(), 0);
        Due.holds("it is public", Modifier.isPublic(made[0].getModifiers()));
        checkFields(face);
        Due.is("UNKNOWN", SparseChecks.UNKNOWN, -1);
        Due.is("BAD", SparseChecks.BAD, -2);
        Due.is("LATE", SparseChecks.LATE, -3);
        Due.is("FULL", SparseChecks.FULL, -4);
        Due.is("NONE", SparseChecks.NONE, -9);
        Due.end();
    }

    private static String told(Method method) {
        StringBuilder all = new StringBuilder(method.getReturnType().getName());
        all.append(' ').append(method.getName()).append('(');
        String between = "";
        for (Class<?> type : method.getParameterTypes()) {
            all.append(between).append(type.getName());
            between = ",";
        }
        return all.append(')').toString();
    }

    private static void checkHidden(Class<?> where, Set<String> shown) {
        for (Method method : where.getDeclaredMethods()) {
            boolean face = where == SparseChecks.class && Modifier.isPublic(method.getModifiers());
            Due.holds("a name of its own: " + method, face || !shown.contains(method.getName()));
            Due.holds("seven parameters at most: " + method, method.getParameterCount() <= 7);
            Due.holds("not made by the compiler: " + method, !method.isSynthetic());
        }
    }

    private static void checkFields(Class<?> face) {
        Set<String> shown = new TreeSet<>();
        int own = 0;
        for (Field field : face.getDeclaredFields()) {
            if (!Modifier.isPrivate(field.getModifiers())) {
                shown.add(field.getName());
            }
            if (Modifier.isStatic(field.getModifiers())) {
                Due.holds("final: " + field, Modifier.isFinal(field.getModifiers()));
            } else {
                own++;
            }
        }
        Due.holds("constants " + shown, shown.equals(Set.of("UNKNOWN", "BAD", "LATE", "FULL", "NONE")));
        Due.holds("twenty fields at most", own <= 20);
    }
}
