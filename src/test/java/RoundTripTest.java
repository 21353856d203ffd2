import java.util.Random;

/** Promises 4, 5 and 12 together: what is written is read as the same tokens again. */
public final class RoundTripTest {
    private static final Checks CHECKS = new Checks();
    private static final String[] PIECES = {
        "<", ">", "/", "!", "-", "--", "a", "B", "c", "=", "\"", "'", "&", "#", ";", " ", "\n", "\r",
        "\0", "?", "`", "<!--", "-->", "--!>", "<!doctype ", "<a ", "</a", "<b/", "b=", "='", "=\"",
        "&#13;", "&#x41", "&#0", "&#55296;", "&#128;", "&amp", "&notin;", "&notit;", "&copysr",
        "&abc;", "&euro;", "\u0080", "\u00e9", "\" ", "' ", "</", "<?", "<!"
    };

    public static void main(String[] args) {
        // A seed that is written down: each run of this test sees the same texts.
        Random random = new Random(20261115);
        for (int k = 0; k < 20000; k++) {
            roundTrip(text(random));
        }
        CHECKS.end();
    }

    private static String text(Random random) {
        StringBuilder text = new StringBuilder();
        int pieces = random.nextInt(40);
        for (int k = 0; k < pieces; k++) {
            text.append(PIECES[random.nextInt(PIECES.length)]);
        }
        return text.length() > 100 ? text.substring(0, 100) : text.toString();
    }

    private static void roundTrip(String text) {
        MarkupTokens x = Markup.read(text);
        String tokens = Markup.tokens(x);
        String out = Markup.out(x);
        if (x.again() == MarkupTokens.FULL) {
            CHECKS.same("a FULL out is long: " + (out.length() > 400), out.length() > 400, true);
            return;
        }
        x.run();
        String shown = Markup.visible(text);
        CHECKS.same("tokens again of " + shown, Markup.tokens(x), tokens);
        CHECKS.same("out again of " + shown, Markup.visible(Markup.out(x)), Markup.visible(out));
    }
}
