import java.util.Random;

/** Texts of 400 bytes that need the most room, and any calls in any order. */
public final class RoomTest {
    private static final Checks CHECKS = new Checks();

    public static void main(String[] args) {
        manyTokens();
        manyAttributes();
        manyFaults();
        manyCharacters();
        manyRuns();
        anyCalls();
        CHECKS.end();
    }

    private static String filled(String start, String piece, String end) {
        StringBuilder text = new StringBuilder(start);
        while (text.length() + piece.length() + end.length() <= 400) {
            text.append(piece);
        }
        return text.append(end).toString();
    }

    private static void manyTokens() {
        MarkupTokens x = Markup.read(filled("", "a<!>", ""));
        CHECKS.same("tokens of a<!>..", x.run(), 200);
        CHECKS.same("at(198, 0)", x.at(198, 0), (int) 'a');
        CHECKS.same("token(199, 0)", x.token(199, 0), MarkupTokens.COMMENT);
        CHECKS.same("token(200, 0)", x.token(200, 0), MarkupTokens.BAD);
        CHECKS.same("write()", x.write(), 800);
        MarkupTokens tags = Markup.read(filled("", "<b>", "c"));
        CHECKS.same("tokens of <b>..", tags.run(), 134);
        MarkupTokens doctypes = Markup.read(filled("", "<!doctype>", ""));
        CHECKS.same("tokens of <!doctype>..", doctypes.run(), 40);
        CHECKS.same("write() of <!doctype>..", doctypes.write(), 400);
    }

    private static void manyAttributes() {
        StringBuilder text = new StringBuilder("<a");
        for (int k = 0; k < 120; k++) {
            text.append('/').append((char) (128 + k));
        }
        MarkupTokens x = Markup.read(text + ">");
        CHECKS.same("token(0, 3)", x.token(0, 3), 120);
        CHECKS.same("part(0, 119, 0, 0)", x.part(0, 119, 0, 0), 247);
        CHECKS.same("write()", x.write(), 3 + 120 * 5);
        MarkupTokens many = Markup.read(filled("", "<a b>", ""));
        CHECKS.same("part(79, 0, 0, 0)", many.part(79, 0, 0, 0), (int) 'b');
    }

    private static void manyFaults() {
        MarkupTokens x = Markup.read(filled("<a", "/\"", ""));
        // Each / but the first leaves the name; all names but the first stood before.
        CHECKS.same("faults()", x.faults(), 199 * 2 + 198 + 1);
        CHECKS.same("the last fault", x.fault(x.faults() - 1, 0), 6);
        CHECKS.same("its place", x.fault(x.faults() - 1, 1), 400);
        CHECKS.same("fault behind the last", x.fault(x.faults(), 0), MarkupTokens.BAD);
        MarkupTokens numbers = Markup.read(filled("<a b=", "&#0", ">"));
        CHECKS.same("faults() of &#0..", numbers.faults(), 131 * 2);
    }

    private static void manyCharacters() {
        CHECKS.same("a comment", Markup.read(filled("<!--", "-", "")).token(0, 1), 394);
        CHECKS.same("a name", Markup.read(filled("<", "n", ">")).token(0, 1), 398);
        CHECKS.same("a value", Markup.read(filled("<n v='", "&", "'>")).size(0, 0, 1), 392);
        CHECKS.same("an attribute's name", Markup.read(filled("<n ", "\"", ">")).size(0, 0, 0), 396);
        CHECKS.same("a text", Markup.read(filled("", "<", "")).token(0, 1), 400);
    }

    private static void manyRuns() {
        MarkupTokens x = Markup.read(filled("t", "<a b=c>", ""));
        String tokens = Markup.tokens(x);
        String faults = Markup.faults(x);
        for (int k = 0; k < 20; k++) {
            CHECKS.same("run() " + k, x.run(), 58);
            CHECKS.same("tokens of run() " + k, Markup.tokens(x), tokens);
            CHECKS.same("faults of run() " + k, Markup.faults(x), faults);
        }
    }

    private static void anyCalls() {
        Random random = new Random(512);
        for (int object = 0; object < 200; object++) {
            MarkupTokens x = new MarkupTokens();
            for (int call = 0; call < 512; call++) {
                anyCall(x, random);
            }
        }
    }

    private static int any(Random random) {
        return random.nextInt(4) == 0 ? random.nextInt() : random.nextInt(12) - 2;
    }

    /** An exception would end this test with an exit code that is not 0. */
    private static void anyCall(MarkupTokens x, Random random) {
        String pieces = "<<<>>>aab=\"'&#0;/!-- \0";
        StringBuilder eight = new StringBuilder();
        for (int k = 0; k < 8; k++) {
            eight.append(pieces.charAt(random.nextInt(pieces.length())));
        }
        switch (random.nextInt(16)) {
            case 0: x.clear(); break;
            case 1: x.again(); break;
            case 2: x.run(); break;
            case 3: x.token(any(random), any(random)); break;
            case 4: x.at(any(random), any(random)); break;
            case 5: x.size(any(random), any(random), any(random)); break;
            case 6: x.part(any(random), any(random), any(random), any(random)); break;
            case 7: x.faults(); break;
            case 8: x.fault(any(random), any(random)); break;
            case 9: x.write(); break;
            case 10: x.word(any(random)); break;
            default: x.feed(Markup.bytes(eight.toString()), any(random)); break;
        }
    }
}
