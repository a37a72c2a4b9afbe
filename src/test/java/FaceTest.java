import java.lang.reflect.Constructor;
import java.lang.reflect.Field;
import java.lang.reflect.Method;
import java.lang.reflect.Modifier;
import java.util.Set;
import java.util.TreeSet;

/** The public face, and rule 1 and 11 of the language: no other member, no private method of a public name. */
public final class FaceTest {
    private static final String[] FACE = {
        "int account(int,int)", "int assemble()", "int block(int,int,int) throws NoSuchElementException", "int cards()", "int deck()", "boolean end(int)",
        "int error()", "int errors()", "boolean feed(int,int,int,int,int)", "boolean go()", "int jobs()", "int letter(int,int,int)", "int list()",
        "int listing()", "int mount(int,int)", "int names()", "int register(int) throws NoSuchElementException", "int run(int)", "int state()", "int summary()",
        "int symbol() throws NoSuchElementException", "void tear()", "long time()", "int trace(int)", "int unit(int)",
        "int word(int) throws NoSuchElementException"};

    public static void main(String[] args) {
        Class<?> face = SixBitBoard.class;
        Kit.due("public and final", face.getModifiers(), Modifier.PUBLIC | Modifier.FINAL);
        Set<String> due = new TreeSet<>(Set.of(FACE));
        Set<String> names = new TreeSet<>();
        Set<String> got = new TreeSet<>();
        for (Method m : face.getDeclaredMethods()) {
            if (Modifier.isPublic(m.getModifiers())) {
                got.add(told(m));
                names.add(m.getName());
            } else {
                Kit.due(m + " is private", Modifier.isPrivate(m.getModifiers()), true);
            }
        }
        Kit.due("methods", got.toString(), due.toString());
        Constructor<?>[] made = face.getDeclaredConstructors();
        Kit.due("constructors", made.length, 1);
        Kit.due("public", made[0].getModifiers(), Modifier.PUBLIC);
        for (Field f : face.getDeclaredFields()) {
            Kit.due(f + " is private, or NONE", Modifier.isPrivate(f.getModifiers()) || f.getName().equals("NONE"), true);
        }
        Kit.due("NONE", SixBitBoard.NONE, -1);
        inside(face, names);
        Kit.close();
    }

    private static String told(Method m) {
        StringBuilder line = new StringBuilder(m.getReturnType().getSimpleName()).append(' ').append(m.getName()).append('(');
        Class<?>[] types = m.getParameterTypes();
        for (int k = 0; k < types.length; k++) {
            line.append(k == 0 ? "" : ",").append(types[k].getSimpleName());
        }
        line.append(')');
        for (Class<?> c : m.getExceptionTypes()) {
            line.append(" throws ").append(c.getSimpleName());
        }
        return line.toString();
    }

    private static void inside(Class<?> face, Set<String> names) {
        Class<?>[] classes = face.getDeclaredClasses();
        Kit.due("some twelve classes", classes.length <= 12, true);
        for (Class<?> c : classes) {
            Kit.due(c + " is private and static", c.getModifiers() & (Modifier.PRIVATE | Modifier.STATIC), Modifier.PRIVATE | Modifier.STATIC);
            int fields = 0;
            for (Field f : c.getDeclaredFields()) {
                boolean fixed = Modifier.isStatic(f.getModifiers());
                fields += fixed ? 0 : 1;
                Kit.due(f + ": static is final", !fixed || Modifier.isFinal(f.getModifiers()), true);
            }
            Kit.due(c + ": some twenty fields", fields <= 20, true);
            for (Method m : c.getDeclaredMethods()) {
                Kit.due(m + ": not a public name", names.contains(m.getName()), false);
                Kit.due(m + ": at most seven parameters", m.getParameterCount() <= 7, true);
            }
        }
    }
}
