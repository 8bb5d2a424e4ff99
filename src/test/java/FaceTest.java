import java.lang.reflect.Constructor;
import java.lang.reflect.Field;
import java.lang.reflect.Method;
import java.lang.reflect.Modifier;
import java.util.TreeSet;

/** The public face, and promise 1: a new object. */
public final class FaceTest {
    private static final String[] FACE = {
        "NONE int", "TOO_LARGE int", "ILL int", "()", "node int(int int int int int)",
        "catchBehind int(int int int int int)", "body boolean(int int)", "lay int(boolean)", "laid int(int)",
        "instruction int(int int)", "entry int(int)", "row int(int int)", "run int(int)", "latest int(int)",
        "out int(int)", "variable int(int)",
    };

    public static void main(String[] args) {
        members();
        newObject();
        Check.end();
    }

    private static void members() {
        TreeSet<String> seen = new TreeSet<>();
        for (Field f : UnwindMill.class.getDeclaredFields()) {
            if (!Modifier.isPrivate(f.getModifiers())) {
                seen.add(f.getName() + " " + f.getType());
            }
        }
        for (Constructor<?> c : UnwindMill.class.getDeclaredConstructors()) {
            if (!Modifier.isPrivate(c.getModifiers())) {
                seen.add("(" + types(c.getParameterTypes()) + ")");
            }
        }
        TreeSet<String> names = new TreeSet<>();
        for (Method m : UnwindMill.class.getDeclaredMethods()) {
            if (!Modifier.isPrivate(m.getModifiers())) {
                seen.add(m.getName() + " " + m.getReturnType() + "(" + types(m.getParameterTypes()) + ")");
                names.add(m.getName());
            }
        }
        Check.same("the face", seen.toString(), new TreeSet<>(java.util.List.of(FACE)).toString());
        exceptions("instruction");
        exceptions("row");
        Check.due("final", Modifier.isFinal(UnwindMill.class.getModifiers()), true);
        Check.due("NONE", UnwindMill.NONE, -1);
        Check.due("TOO_LARGE", UnwindMill.TOO_LARGE, -2);
        Check.due("ILL", UnwindMill.ILL, -3);
        for (Class<?> inside : UnwindMill.class.getDeclaredClasses()) {
            for (Method m : inside.getDeclaredMethods()) {
                Check.due(inside.getName() + "." + m.getName() + " bears a public name", names.contains(m.getName()), false);
            }
        }
    }

    private static void exceptions(String name) {
        for (Method m : UnwindMill.class.getDeclaredMethods()) {
            if (m.getName().equals(name)) {
                Check.same(name + " throws", types(m.getExceptionTypes()),
                    "class java.lang.IndexOutOfBoundsException class java.lang.IllegalArgumentException");
            }
        }
    }

    private static String types(Class<?>[] all) {
        StringBuilder text = new StringBuilder();
        for (Class<?> one : all) {
            text.append(text.length() == 0 ? "" : " ").append(one);
        }
        return text.toString();
    }

    private static void newObject() {
        UnwindMill x = new UnwindMill();
        for (int what = -1; what <= 6; what++) {
            Check.due("laid of new", x.laid(what), -1);
            Check.due("latest of new", x.latest(what), -1);
            Check.due("entry of new", x.entry(what), -1);
            Check.due("run of new", x.run(what), -1);
            Check.due("out of new", x.out(what), 0);
            Check.due("variable of new", x.variable(what), 0);
        }
        Check.due("latest after a run that was none", x.latest(0), -1);
        Check.same("instruction of new", Check.instruction(x, 0, 0), "IndexOutOfBoundsException");
        Check.same("row of new", Check.row(x, 0, 0), "IndexOutOfBoundsException");
        Check.due("no node yet", x.node(10, 0, 0, 0, 0), -1);
        Check.due("no statement yet", x.body(0, 0), false);
        Check.due("lay of nothing", x.lay(false), 6);
        Check.same("code of nothing", Check.code(x), "RET; RET; RET; RET; RET; RET");
        Check.due("the first node", x.node(8, 0, 0, 0, 0), 0);
        UnwindMill other = new UnwindMill();
        Check.due("another object is apart", other.laid(0), -1);
        Check.due("another object's first node", other.node(8, 0, 0, 0, 0), 0);
    }
}
