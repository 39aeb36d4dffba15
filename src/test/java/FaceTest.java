import java.lang.reflect.Constructor;
import java.lang.reflect.Field;
import java.lang.reflect.Method;
import java.lang.reflect.Modifier;
import java.util.Arrays;
import java.util.Set;
import java.util.TreeSet;

/** The public face: what the document lists, and nothing more that another class could use. */
public final class FaceTest {
    private static final String[] FACE = {
        "public PaintEditor(int,int)",
        "public boolean PaintEditor.size(int,int)",
        "public int PaintEditor.cell(int,int)",
        "public int PaintEditor.draw()",
        "public int PaintEditor.look(int,int)",
        "public int PaintEditor.sent(int)",
        "public int PaintEditor.state(int)",
        "public int PaintEditor.terminal(int)",
        "public int PaintEditor.text(int)",
        "public int PaintEditor.tick()",
        "public int PaintEditor.type(long,int)",
    };

    /** Members that javac makes by itself are no part of the face. */
    private static Set<String> membersNotPrivate() {
        Set<String> found = new TreeSet<>();
        for (Constructor<?> one : PaintEditor.class.getDeclaredConstructors()) {
            if (!Modifier.isPrivate(one.getModifiers()) && !one.isSynthetic()) {
                found.add(one.toString());
            }
        }
        for (Method one : PaintEditor.class.getDeclaredMethods()) {
            if (!Modifier.isPrivate(one.getModifiers()) && !one.isSynthetic()) {
                found.add(one.toString());
            }
        }
        for (Field one : PaintEditor.class.getDeclaredFields()) {
            if (!Modifier.isPrivate(one.getModifiers()) && !one.isSynthetic()) {
                found.add(one.toString());
            }
        }
        return found;
    }

    private static void members() {
        Set<String> due = new TreeSet<>(Arrays.asList(FACE));
        Check.due("the members that are not private", membersNotPrivate().toString(), due.toString());
    }

    private static void theClass() {
        int modifiers = PaintEditor.class.getModifiers();
        Check.due("public final class", Modifier.toString(modifiers), "public final");
        Check.due("without a package", PaintEditor.class.getPackageName(), "");
        Check.due("it is no other class's", PaintEditor.class.getSuperclass() == Object.class, true);
        Check.due("it has no interfaces", PaintEditor.class.getInterfaces().length, 0);
    }

    private static void classesInside() {
        for (Class<?> one : PaintEditor.class.getDeclaredClasses()) {
            int modifiers = one.getModifiers();
            Check.due(one.getName() + " is static", Modifier.isStatic(modifiers), true);
            Check.due(one.getName() + " is seen outside",
                    Modifier.isPublic(modifiers) || Modifier.isProtected(modifiers), false);
        }
    }

    public static void main(String[] args) {
        members();
        theClass();
        classesInside();
        Check.end();
    }
}
