import com.sun.management.ThreadMXBean;
import java.lang.management.ManagementFactory;

/** Texts of 400 bytes that need the most room, and how much room objects and calls take. */
public final class RoomTest {
    private static final Checks CHECKS = new Checks();

    public static void main(String[] args) {
        manyTokens();
        manyAttributes();
        manyCharacters();
        objectsAreSmall();
        callsMakeNothing();
        CHECKS.end();
    }

    private static String filled(String start, String piece, String end) {
        StringBuilder text = new StringBuilder(start);
        while (text.length() + piece.length() + end.length() <= 400) {
            text.append(piece);
        }
        return text.append(end).toString();
    }

    private static void manyTokens() {
        MarkupTokens x = Markup.read(filled("", "a<!>", ""));
        CHECKS.same("tokens of a<!>..", x.run(), 200);
        CHECKS.same("at(198, 0)", x.at(198, 0), (int) 'a');
        MarkupTokens tags = Markup.read(filled("", "<b>", "c"));
        CHECKS.same("tokens of <b>..", tags.run(), 134);
        CHECKS.same("at(133, 0)", tags.at(133, 0), (int) 'c');
        MarkupTokens doctypes = Markup.read(filled("", "<!doctype>", ""));
        CHECKS.same("tokens of <!doctype>..", doctypes.run(), 40);
        CHECKS.same("write() of <!doctype>..", doctypes.write(), 400);
    }

    private static void manyAttributes() {
        StringBuilder text = new StringBuilder("<a");
        for (int k = 0; k < 120; k++) {
            text.append('/').append((char) (128 + k));
        }
        MarkupTokens x = Markup.read(text + ">");
        CHECKS.same("token(0, 3)", x.token(0, 3), 120);
        CHECKS.same("part(0, 119, 0, 0)", x.part(0, 119, 0, 0), 247);
        CHECKS.same("write()", x.write(), 3 + 120 * 5);
        MarkupTokens many = Markup.read(filled("", "<a b>", ""));
        CHECKS.same("part(79, 0, 0, 0)", many.part(79, 0, 0, 0), (int) 'b');
    }

    private static void manyCharacters() {
        CHECKS.same("a comment", Markup.read(filled("<!--", "-", "")).token(0, 1), 394);
        CHECKS.same("a name", Markup.read(filled("<", "n", ">")).token(0, 1), 398);
        CHECKS.same("a value", Markup.read(filled("<n v='", "&", "'>")).size(0, 0, 1), 392);
        CHECKS.same("an attribute's name", Markup.read(filled("<n ", "\"", ">")).size(0, 0, 0), 396);
        CHECKS.same("a text", Markup.read(filled("", "<", "")).token(0, 1), 400);
        CHECKS.same("a doctype's name", Markup.read(filled("<!doctype", "n", ">")).token(0, 1), 390);
    }

    private static long allocated() {
        return ((ThreadMXBean) ManagementFactory.getThreadMXBean()).getCurrentThreadAllocatedBytes();
    }

    private static void objectsAreSmall() {
        new MarkupTokens();
        long before = allocated();
        for (int k = 0; k < 100; k++) {
            new MarkupTokens();
        }
        long each = (allocated() - before) / 100;
        // Some 10,000 elements of at most four bytes: 500 objects fit well into the room.
        CHECKS.same("an object of " + each + " bytes is small", each < 50000, true);
    }

    /** A run's room is shared by all its calls, so they use the rows that the constructor made. */
    private static void callsMakeNothing() {
        MarkupTokens x = Markup.read("a&amp&#0;<b c=d e='&lt;'/></f><!--g--><!doctype h i>");
        callAll(x);
        long before = allocated();
        for (int k = 0; k < 30; k++) {
            callAll(x);
        }
        long made = allocated() - before;
        CHECKS.same("calls that make " + made + " bytes make nothing", made < 10000, true);
    }

    private static void callAll(MarkupTokens x) {
        x.feed('a', 1);
        x.run();
        x.token(1, 0);
        x.at(1, 0);
        x.size(1, 0, 0);
        x.part(1, 0, 0, 0);
        x.faults();
        x.fault(0, 0);
        x.write();
        x.word(0);
        x.again();
    }
}
