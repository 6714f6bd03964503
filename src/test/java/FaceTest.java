import java.lang.reflect.Constructor;
import java.lang.reflect.Field;
import java.lang.reflect.Method;
import java.lang.reflect.Modifier;
import java.util.TreeSet;

/** The class has the document's face, and nothing else that can be seen from outside. */
public final class FaceTest {
    private static final String[] FACE = {
        "public static final int NONE",
        "public DrawingForms(int,int)",
        "public boolean put(int,int,int) throws IndexOutOfBoundsException,IllegalArgumentException",
        "public int box(int,int,int,int,int) throws IndexOutOfBoundsException,IllegalArgumentException",
        "public int at(int,int) throws IndexOutOfBoundsException",
        "public boolean second(int,int,int) throws IndexOutOfBoundsException,IllegalArgumentException",
        "public int swap()",
        "public int encode()",
        "public int byteAt(int) throws IndexOutOfBoundsException",
        "public int parts()",
        "public int part(int,int) throws IndexOutOfBoundsException,IllegalArgumentException",
        "public boolean isPlain()",
        "public int feed(int) throws IllegalArgumentException,UnsupportedOperationException",
        "public int pass() throws UnsupportedOperationException",
        "public int decode()",
        "public int change()",
        "public int apply()",
        "public int told(int)",
        "public void clear()",
    };

    public static void main(String[] args) {
        TreeSet<String> want = new TreeSet<>();
        for (String member : FACE) {
            want.add(member);
        }
        Check.due("the face", String.join("; ", visible()), String.join("; ", want));
        Check.due("the class's modifiers", Modifier.toString(DrawingForms.class.getModifiers()),
                "public final");
        Check.due("NONE", DrawingForms.NONE, -1);
        noPrivateMethodBearsAPublicName();
        Check.end();
    }

    private static TreeSet<String> visible() {
        TreeSet<String> got = new TreeSet<>();
        for (Field f : DrawingForms.class.getDeclaredFields()) {
            if (!Modifier.isPrivate(f.getModifiers()) && !f.isSynthetic()) {
                got.add(plainly(f.toString()));
            }
        }
        for (Constructor<?> c : DrawingForms.class.getDeclaredConstructors()) {
            if (!Modifier.isPrivate(c.getModifiers()) && !c.isSynthetic()) {
                got.add(plainly(c.toString()));
            }
        }
        for (Method m : DrawingForms.class.getDeclaredMethods()) {
            if (!Modifier.isPrivate(m.getModifiers()) && !m.isSynthetic()) {
                got.add(plainly(m.toString()));
            }
        }
        return got;
    }

    private static String plainly(String member) {
        return member.replace("java.lang.", "").replace("DrawingForms.", "");
    }

    private static void noPrivateMethodBearsAPublicName() {
        TreeSet<String> open = new TreeSet<>();
        for (Method m : DrawingForms.class.getMethods()) {
            if (m.getDeclaringClass() == DrawingForms.class) {
                open.add(m.getName());
            }
        }
        lookForNames(DrawingForms.class, open, true);
        for (Class<?> inside : DrawingForms.class.getDeclaredClasses()) {
            lookForNames(inside, open, false);
        }
    }

    private static void lookForNames(Class<?> c, TreeSet<String> open, boolean privateAlone) {
        for (Method m : c.getDeclaredMethods()) {
            if (!privateAlone || Modifier.isPrivate(m.getModifiers())) {
                Check.due(c.getSimpleName() + "." + m.getName() + " bears a public name",
                        open.contains(m.getName()), false);
            }
        }
    }
}
