import java.lang.reflect.Field;
import java.lang.reflect.Method;
import java.lang.reflect.Modifier;
import java.util.Arrays;
import java.util.TreeSet;

/** The public face, its constants, and promise 1: a new object. */
public final class FaceTest {
    private static final Checks CHECKS = new Checks();

    public static void main(String[] args) {
        constants();
        methods();
        fields();
        theClass();
        namesInside();
        newObject();
        emptyText();
        CHECKS.end();
    }

    private static void constants() {
        CHECKS.same("BAD", MarkupTokens.BAD, -1);
        CHECKS.same("FULL", MarkupTokens.FULL, -2);
        CHECKS.same("TEXT", MarkupTokens.TEXT, 0);
        CHECKS.same("START", MarkupTokens.START, 1);
        CHECKS.same("STOP", MarkupTokens.STOP, 2);
        CHECKS.same("COMMENT", MarkupTokens.COMMENT, 3);
        CHECKS.same("DOCTYPE", MarkupTokens.DOCTYPE, 4);
    }

    private static void methods() {
        TreeSet<String> seen = new TreeSet<>();
        for (Method method : MarkupTokens.class.getDeclaredMethods()) {
            if (!Modifier.isPrivate(method.getModifiers())) {
                seen.add(method.toString());
            }
        }
        CHECKS.same("the methods that are not private", String.join("\n", seen), String.join("\n",
                "public int MarkupTokens.again()",
                "public int MarkupTokens.at(int,int)",
                "public int MarkupTokens.clear()",
                "public int MarkupTokens.fault(int,int)",
                "public int MarkupTokens.faults()",
                "public int MarkupTokens.feed(long,int)",
                "public int MarkupTokens.part(int,int,int,int)",
                "public int MarkupTokens.run()",
                "public int MarkupTokens.size(int,int,int)",
                "public int MarkupTokens.token(int,int)",
                "public int MarkupTokens.write()",
                "public long MarkupTokens.word(int)"));
    }

    private static void fields() {
        TreeSet<String> seen = new TreeSet<>();
        for (Field field : MarkupTokens.class.getDeclaredFields()) {
            if (!Modifier.isPrivate(field.getModifiers())) {
                seen.add(field.toString());
            }
        }
        CHECKS.same("the fields that are not private", String.join("\n", seen), String.join("\n",
                "public static final int MarkupTokens.BAD",
                "public static final int MarkupTokens.COMMENT",
                "public static final int MarkupTokens.DOCTYPE",
                "public static final int MarkupTokens.FULL",
                "public static final int MarkupTokens.START",
                "public static final int MarkupTokens.STOP",
                "public static final int MarkupTokens.TEXT"));
    }

    private static void theClass() {
        CHECKS.same("the class", MarkupTokens.class.toGenericString(), "public final class MarkupTokens");
        CHECKS.same("what it extends", MarkupTokens.class.getSuperclass(), Object.class);
        CHECKS.same("how many interfaces it has", MarkupTokens.class.getInterfaces().length, 0);
        CHECKS.same("its constructors", Arrays.toString(MarkupTokens.class.getDeclaredConstructors()),
                "[public MarkupTokens()]");
        for (Class<?> inside : MarkupTokens.class.getDeclaredClasses()) {
            int modifiers = inside.getModifiers();
            CHECKS.same(inside + " is static", Modifier.isStatic(modifiers), true);
            CHECKS.same(inside + " is seen outside",
                    Modifier.isPublic(modifiers) || Modifier.isProtected(modifiers), false);
        }
    }

    /** A method inside that is named like one of the face would be taken for it. */
    private static void namesInside() {
        TreeSet<String> face = new TreeSet<>();
        for (Method method : MarkupTokens.class.getMethods()) {
            if (method.getDeclaringClass() == MarkupTokens.class) {
                face.add(method.getName());
            }
        }
        for (Method method : MarkupTokens.class.getDeclaredMethods()) {
            boolean hidden = Modifier.isPrivate(method.getModifiers());
            CHECKS.same(method + " has a name of the face", hidden && face.contains(method.getName()), false);
        }
        for (Class<?> inside : MarkupTokens.class.getDeclaredClasses()) {
            for (Method method : inside.getDeclaredMethods()) {
                CHECKS.same(method + " has a name of the face", face.contains(method.getName()), false);
            }
        }
    }

    /** An empty text, no tokens, an empty out: each call is the first of an object. */
    private static void newObject() {
        CHECKS.same("clear()", new MarkupTokens().clear(), 0);
        CHECKS.same("again()", new MarkupTokens().again(), 0);
        CHECKS.same("run()", new MarkupTokens().run(), 0);
        CHECKS.same("faults()", new MarkupTokens().faults(), 0);
        CHECKS.same("fault(0, 0)", new MarkupTokens().fault(0, 0), MarkupTokens.BAD);
        CHECKS.same("token(0, 0)", new MarkupTokens().token(0, 0), MarkupTokens.BAD);
        CHECKS.same("at(0, 0)", new MarkupTokens().at(0, 0), MarkupTokens.BAD);
        CHECKS.same("size(0, 0, 0)", new MarkupTokens().size(0, 0, 0), MarkupTokens.BAD);
        CHECKS.same("part(0, 0, 0, 0)", new MarkupTokens().part(0, 0, 0, 0), MarkupTokens.BAD);
        CHECKS.same("write()", new MarkupTokens().write(), 0);
        CHECKS.same("word(0)", new MarkupTokens().word(0), 0L);
        CHECKS.same("feed", new MarkupTokens().feed('a', 1), 1);
    }

    private static void emptyText() {
        MarkupTokens x = new MarkupTokens();
        CHECKS.same("run() of an empty text", x.run(), 0);
        CHECKS.same("state of an empty text", Markup.state(x), " with  and 0 0 0 0 0 0 0 0");
        CHECKS.same("write() of an empty text", x.write(), 0);
        CHECKS.same("again() of an empty out", x.again(), 0);
    }
}
