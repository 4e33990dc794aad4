import java.lang.reflect.Constructor;
import java.lang.reflect.Field;
import java.lang.reflect.Method;
import java.lang.reflect.Modifier;
import java.util.Set;
import java.util.TreeSet;

/** The public face is the document's, to the letter, and nothing else can be seen. */
final class FaceTest {
    private static final String[] FACE = {
        "int come(int,int,int) IllegalArgumentException IllegalStateException",
        "int leave(int) IndexOutOfBoundsException IllegalStateException",
        "int earn(int,int) IndexOutOfBoundsException IllegalArgumentException",
        "int lend(int,int) IndexOutOfBoundsException IllegalStateException",
        "int giveBack(int) IndexOutOfBoundsException IllegalStateException",
        "int mask(int) IndexOutOfBoundsException IllegalStateException",
        "int pay(int) IndexOutOfBoundsException",
        "int queue(int,int) IndexOutOfBoundsException IllegalStateException",
        "int open(int) IndexOutOfBoundsException IllegalStateException",
        "int night()",
        "int set(int,int) IndexOutOfBoundsException IllegalArgumentException",
        "int append(int) IllegalArgumentException IllegalStateException",
        "int clearBuffer()",
        "int firstError()",
        "int revel() IllegalArgumentException",
        "int stopped(int) IllegalArgumentException",
        "int undo() IllegalStateException",
        "int keep()",
        "int restore() IllegalStateException",
        "int guest(int,int) IndexOutOfBoundsException IllegalArgumentException",
        "int law(int,int,int) IndexOutOfBoundsException IllegalArgumentException",
        "int count(int) IllegalArgumentException",
        "int line(int) IndexOutOfBoundsException",
        "int noLoan(int,int) IndexOutOfBoundsException",
        "int whyNot(int,boolean) IndexOutOfBoundsException",
        "int ifOpened(int,int,int) IndexOutOfBoundsException IllegalArgumentException",
        "int bestGate(int) IndexOutOfBoundsException",
        "int freeIn(int,int) IndexOutOfBoundsException",
        "double decentShare()",
        "long digest()"};

    private static String told(Method m) {
        StringBuilder text = new StringBuilder(m.getReturnType().getName()).append(' ').append(m.getName()).append('(');
        Class<?>[] types = m.getParameterTypes();
        for (int i = 0; i < types.length; i++) {
            text.append(i > 0 ? "," : "").append(types[i].getName());
        }
        text.append(')');
        for (Class<?> e : m.getExceptionTypes()) {
            text.append(' ').append(e.getSimpleName());
        }
        return text.toString();
    }

    public static void main(String[] args) {
        Check c = new Check("FaceTest");
        Class<?> k = LaceRanks.class;
        Set<String> face = new TreeSet<>();
        Set<String> names = new TreeSet<>();
        for (Method m : k.getDeclaredMethods()) {
            if (!Modifier.isPrivate(m.getModifiers())) {
                c.due(m + " is public and of the object", m.getModifiers(), Modifier.PUBLIC);
                face.add(told(m));
                names.add(m.getName());
            }
        }
        c.due("the face", face, new TreeSet<>(Set.of(FACE)));
        for (Method m : k.getDeclaredMethods()) {
            if (Modifier.isPrivate(m.getModifiers())) {
                c.due(m + " bears the name of a public one", names.contains(m.getName()), false);
            }
        }
        for (Field f : k.getDeclaredFields()) {
            boolean isConstant = f.getName().equals("NONE");
            c.due(f + " is private but for NONE", Modifier.isPrivate(f.getModifiers()), !isConstant);
            if (Modifier.isStatic(f.getModifiers())) {
                c.due(f + " is final", Modifier.isFinal(f.getModifiers()), true);
            }
        }
        Constructor<?>[] made = k.getDeclaredConstructors();
        c.due("constructors", made.length, 1);
        c.due("its arguments", made[0].getParameterCount(), 0);
        c.due("it is public", made[0].getModifiers(), Modifier.PUBLIC);
        c.due("the class", k.getModifiers(), Modifier.PUBLIC | Modifier.FINAL);
        for (Class<?> inner : k.getDeclaredClasses()) {
            c.due(inner + " is static", Modifier.isStatic(inner.getModifiers()), true);
            c.due(inner + " is private", Modifier.isPrivate(inner.getModifiers()), true);
        }
        c.end();
    }
}
