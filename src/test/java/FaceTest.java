import java.lang.reflect.Constructor;
import java.lang.reflect.Field;
import java.lang.reflect.Method;
import java.lang.reflect.Modifier;
import java.util.Arrays;
import java.util.NoSuchElementException;
import java.util.TreeSet;

/** The public face: just the document's members, and what LANGUAGE.md's rule 1 says of them. */
public final class FaceTest {
    private static final String[] FACE = {
        "int poke(int, int) throws", "int peek(int) throws", "int fill(int, int, int, int)",
        "boolean table(int)", "boolean context(int, boolean, int, int)",
        "boolean enter(int, int, int, boolean, int)", "int read(int, int) throws",
        "boolean write(int, int, int)", "int fault()", "boolean ring(int, int, int)",
        "int tail(int, int)", "int step(int, int)", "int resume(int)", "int engine(int, int)",
        "int command(int, int, int)", "int obey(int)", "int count(int)", "int record(int, int)",
        "int drop()", "int clear()", "int leaf(int, int)",
    };

    private static String signature(Method m) {
        StringBuilder s = new StringBuilder(m.getReturnType().getName());
        s.append(' ').append(m.getName()).append('(');
        String between = "";
        for (Class<?> p : m.getParameterTypes()) {
            s.append(between).append(p.getName());
            between = ", ";
        }
        s.append(')');
        Class<?>[] thrown = m.getExceptionTypes();
        if (thrown.length == 1 && thrown[0] == NoSuchElementException.class) {
            s.append(" throws");
        }
        return s.toString();
    }

    public static void main(String[] args) {
        Check c = new Check();
        TreeSet<String> got = new TreeSet<>();
        TreeSet<String> publicNames = new TreeSet<>();
        for (Method m : DmaGate.class.getDeclaredMethods()) {
            if (Modifier.isPublic(m.getModifiers())) {
                got.add(signature(m));
                publicNames.add(m.getName());
                c.due("static " + m.getName(), Modifier.isStatic(m.getModifiers()), false);
            }
        }
        TreeSet<String> want = new TreeSet<>(Arrays.asList(FACE));
        if (!got.equals(want)) {
            System.out.println("the face is " + got);
        }
        c.due("the face's methods are the document's", got.equals(want), true);
        for (Method m : DmaGate.class.getDeclaredMethods()) {
            if (!Modifier.isPublic(m.getModifiers()) && !m.isSynthetic()) {
                c.due("private " + m.getName(), Modifier.isPrivate(m.getModifiers()), true);
                c.due("name of a public method: " + m.getName(), publicNames.contains(m.getName()), false);
            }
        }
        for (Class<?> inside : DmaGate.class.getDeclaredClasses()) {
            for (Method m : inside.getDeclaredMethods()) {
                c.due("name of a public method: " + m.getName(), publicNames.contains(m.getName()), false);
            }
            c.due("static " + inside.getName(), Modifier.isStatic(inside.getModifiers()), true);
        }
        int publicFields = 0;
        int ownFields = 0;
        for (Field f : DmaGate.class.getDeclaredFields()) {
            publicFields += Modifier.isPublic(f.getModifiers()) ? 1 : 0;
            ownFields += Modifier.isStatic(f.getModifiers()) ? 0 : 1;
            if (!f.getName().equals("NONE")) {
                c.due("private " + f.getName(), Modifier.isPrivate(f.getModifiers()), true);
            }
            if (Modifier.isStatic(f.getModifiers())) {
                c.due("final " + f.getName(), Modifier.isFinal(f.getModifiers()), true);
            }
        }
        c.due("public fields", publicFields, 1);
        c.due("at most some twenty fields", ownFields <= 20, true);
        c.due("NONE", DmaGate.NONE, -1);
        Constructor<?>[] makers = DmaGate.class.getDeclaredConstructors();
        c.due("constructors", makers.length, 1);
        c.due("constructor's parameters", makers[0].getParameterCount(), 0);
        c.due("public constructor", Modifier.isPublic(makers[0].getModifiers()), true);
        c.due("public class", Modifier.isPublic(DmaGate.class.getModifiers()), true);
        c.due("final class", Modifier.isFinal(DmaGate.class.getModifiers()), true);
        c.end("FaceTest");
    }
}
