import java.lang.reflect.Constructor;
import java.lang.reflect.Field;
import java.lang.reflect.Method;
import java.lang.reflect.Modifier;
import java.util.TreeSet;

/** The public face, its constants, and promise 1: a new object. */
public final class FaceTest {
    private static final Checks CHECKS = new Checks();

    public static void main(String[] args) {
        constants();
        methods();
        newObject();
        emptyText();
        CHECKS.end();
    }

    private static void constants() {
        CHECKS.same("BAD", MarkupTokens.BAD, -1);
        CHECKS.same("FULL", MarkupTokens.FULL, -2);
        CHECKS.same("TEXT", MarkupTokens.TEXT, 0);
        CHECKS.same("START", MarkupTokens.START, 1);
        CHECKS.same("STOP", MarkupTokens.STOP, 2);
        CHECKS.same("COMMENT", MarkupTokens.COMMENT, 3);
        CHECKS.same("DOCTYPE", MarkupTokens.DOCTYPE, 4);
    }

    private static void methods() {
        TreeSet<String> seen = new TreeSet<>();
        for (Method method : MarkupTokens.class.getDeclaredMethods()) {
            if (!Modifier.isPrivate(method.getModifiers())) {
                seen.add(method.getReturnType() + " " + method.getName() + "/" + method.getParameterCount());
            }
        }
        CHECKS.same("the methods that are not private", seen.toString(),
                "[int again/0, int at/2, int clear/0, int fault/2, int faults/0, int feed/2, int part/4,"
                + " int run/0, int size/3, int token/2, int write/0, long word/1]");
        TreeSet<String> fields = new TreeSet<>();
        for (Field field : MarkupTokens.class.getDeclaredFields()) {
            if (!Modifier.isPrivate(field.getModifiers())) {
                fields.add(field.getName());
            }
        }
        CHECKS.same("the fields that are not private", fields.toString(),
                "[BAD, COMMENT, DOCTYPE, FULL, START, STOP, TEXT]");
        Constructor<?>[] constructors = MarkupTokens.class.getDeclaredConstructors();
        CHECKS.same("how many constructors", constructors.length, 1);
        CHECKS.same("parameters of the constructor", constructors[0].getParameterCount(), 0);
        CHECKS.same("the class is final", Modifier.isFinal(MarkupTokens.class.getModifiers()), true);
    }

    /** An empty text, no tokens, an empty out: each call is the first of an object. */
    private static void newObject() {
        CHECKS.same("clear()", new MarkupTokens().clear(), 0);
        CHECKS.same("again()", new MarkupTokens().again(), 0);
        CHECKS.same("run()", new MarkupTokens().run(), 0);
        CHECKS.same("faults()", new MarkupTokens().faults(), 0);
        CHECKS.same("fault(0, 0)", new MarkupTokens().fault(0, 0), MarkupTokens.BAD);
        CHECKS.same("token(0, 0)", new MarkupTokens().token(0, 0), MarkupTokens.BAD);
        CHECKS.same("at(0, 0)", new MarkupTokens().at(0, 0), MarkupTokens.BAD);
        CHECKS.same("size(0, 0, 0)", new MarkupTokens().size(0, 0, 0), MarkupTokens.BAD);
        CHECKS.same("part(0, 0, 0, 0)", new MarkupTokens().part(0, 0, 0, 0), MarkupTokens.BAD);
        CHECKS.same("write()", new MarkupTokens().write(), 0);
        CHECKS.same("word(0)", new MarkupTokens().word(0), 0L);
        CHECKS.same("feed", new MarkupTokens().feed('a', 1), 1);
    }

    private static void emptyText() {
        MarkupTokens x = new MarkupTokens();
        CHECKS.same("run() of an empty text", x.run(), 0);
        CHECKS.same("state of an empty text", Markup.state(x), " with  and 0 0 0 0 0 0 0 0");
        CHECKS.same("write() of an empty text", x.write(), 0);
        CHECKS.same("again() of an empty out", x.again(), 0);
    }
}
