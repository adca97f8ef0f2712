import java.lang.reflect.Constructor;
import java.lang.reflect.Field;
import java.lang.reflect.Method;
import java.lang.reflect.Modifier;
import java.util.Set;
import java.util.TreeSet;

/** The public face is the document's, and nothing else can be seen of the class. */
public final class FaceTest {
    private static final String[] FACE = {
        "int feed(int,int,int,int,int)", "boolean end(int)", "int house()", "int fault()", "int thing(int,int)!",
        "int trouble(int,int)!", "int cures(int,int)", "int now(int)", "int off(int)", "int on(int,int)",
        "int cable(int,int)", "int pin(int,int)", "int strike(int)", "int minutes(int)", "int undo()", "int what()",
        "int likely(int,int)!", "int plan(int,int,int)!", "int planAt(int)", "int ready(int)", "int starts(int)",
        "int helped()!", "int lots()", "int alike(int)", "int kinds()", "int look(int)", "int left()", "int fits(int)",
        "int heals(int)", "int worksIn(int)", "int tell(int)", "int byteAt(int)", "int drawn(int,int)",
        "int odds(int,int,int)", "int log(int)", "int logged(int)", "int sentence()", "int said(int)",
        "boolean image(int)", "boolean restore(int)", "int count(int)",
    };

    public static void main(String[] args) throws Exception {
        Check c = new Check();
        Set<String> due = new TreeSet<>(Set.of(FACE));
        Set<String> seen = new TreeSet<>();
        Set<String> publicNames = new TreeSet<>();
        for (Method m : OffThenOn.class.getDeclaredMethods()) {
            if (Modifier.isPublic(m.getModifiers())) {
                seen.add(written(m));
                publicNames.add(m.getName());
            } else {
                c.is("private " + m.getName(), Modifier.isPrivate(m.getModifiers()), true);
            }
        }
        c.is("face", seen.toString(), due.toString());
        for (Method m : OffThenOn.class.getDeclaredMethods()) {
            c.is("name of " + m, Modifier.isPublic(m.getModifiers()) || !publicNames.contains(m.getName()), true);
        }
        for (Field f : OffThenOn.class.getDeclaredFields()) {
            boolean isNone = f.getName().equals("NONE");
            c.is("field " + f, isNone ? Modifier.isPublic(f.getModifiers()) : Modifier.isPrivate(f.getModifiers()), true);
        }
        Constructor<?>[] made = OffThenOn.class.getDeclaredConstructors();
        c.is("constructors", made.length, 1);
        c.is("public constructor", Modifier.isPublic(made[0].getModifiers()), true);
        c.is("final", Modifier.isFinal(OffThenOn.class.getModifiers()), true);
        c.is("NONE", OffThenOn.NONE, -1);
        for (Class<?> inside : OffThenOn.class.getDeclaredClasses()) {
            c.is("static " + inside, Modifier.isStatic(inside.getModifiers()), true);
        }
        c.close();
    }

    private static String written(Method m) {
        StringBuilder b = new StringBuilder(m.getReturnType().getName()).append(' ').append(m.getName()).append('(');
        String gap = "";
        for (Class<?> p : m.getParameterTypes()) {
            b.append(gap).append(p.getName());
            gap = ",";
        }
        return b.append(')').append(m.getExceptionTypes().length > 0 ? "!" : "").toString();
    }
}
