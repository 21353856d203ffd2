/** Promises 12 and 13: write and word. */
public final class WriteTest {
    private static final Checks CHECKS = new Checks();

    public static void main(String[] args) {
        texts();
        tags();
        comments();
        doctypes();
        words();
        longOuts();
        CHECKS.end();
    }

    private static void texts() {
        CHECKS.written("", "");
        CHECKS.written("a>\"'\n\u00ff\0", "a>\"'\n\u00ff\0");
        CHECKS.written("&&lt;<&gt;", "&amp;&lt;&lt;>");
        CHECKS.written("\r&#13;&#10;", "\n&#13;\n");
        CHECKS.written("&#255;&#256;&euro;&#0;&#1114109;", "\u00ff&#256;&#8364;&#65533;&#1114109;");
        CHECKS.written("&#100000;&#99999;&#1000000;", "&#100000;&#99999;&#1000000;");
        CHECKS.written("&#129;&#128;", "\u0081&#8364;");
    }

    private static void tags() {
        CHECKS.written("<A>b</A >", "<a>b</a>");
        CHECKS.written("<a/>", "<a/>");
        CHECKS.written("<a B=C d e='f'>", "<a b=\"C\" d=\"\" e=\"f\">");
        CHECKS.written("<a b=1 b=2 c/>", "<a b=\"1\" c=\"\"/>");
        CHECKS.written("</a b=c />", "</a>");
        CHECKS.written("<a b='\"&<>&#13;&euro;\0'>", "<a b=\"&quot;&amp;<>&#13;&#8364;&#65533;\">");
        CHECKS.written("<a\0 \0='c'>", "<a\0 \0=\"c\">");
        CHECKS.written("<a =\">", "<a =\"=\"\">");
        CHECKS.written("a<b c", "a");
    }

    private static void comments() {
        CHECKS.written("<!--a-b-->", "<!--a-b-->");
        CHECKS.written("<!-->", "<!---->");
        CHECKS.written("<?a&<\0>", "<!--?a&<\0-->");
        CHECKS.written("<!--\u00e9", "<!--\u00e9-->");
    }

    private static void doctypes() {
        CHECKS.written("<!doctype  HTML >", "<!DOCTYPE html>");
        CHECKS.written("<!doctype html public>", "<!DOCTYPE html x>");
        CHECKS.written("<!doctype>", "<!DOCTYPE>");
        CHECKS.written("<!doctype \0", "<!DOCTYPE \0 x>");
    }

    private static void words() {
        MarkupTokens x = Markup.read("abcdefghij\u00ff");
        CHECKS.same("word(0) before write()", x.word(0), 0L);
        CHECKS.same("write()", x.write(), 11);
        CHECKS.same("word(0)", x.word(0), 0x6867666564636261L);
        CHECKS.same("word(1)", x.word(1), 0xff6a69L);
        int[] far = {2, 3, 399, 400, 500, -1, -2, 1 << 29, 1 << 30, Integer.MIN_VALUE, Integer.MAX_VALUE};
        for (int i : far) {
            CHECKS.same("word(" + i + ")", x.word(i), 0L);
        }
        x.clear();
        Markup.feed(x, "xy");
        x.run();
        CHECKS.same("word(0) until the next write()", x.word(0), 0x6867666564636261L);
        CHECKS.same("write() of less", x.write(), 2);
        CHECKS.same("word(0) of less", x.word(0), 0x7978L);
        CHECKS.same("word(1) of less", x.word(1), 0L);
        MarkupTokens high = Markup.read("\u00ff".repeat(8));
        high.write();
        CHECKS.same("word(0) of high bytes", high.word(0), -1L);
    }

    private static void longOuts() {
        MarkupTokens text = Markup.read("&".repeat(400));
        CHECKS.same("write() of 400 &", text.write(), 2000);
        CHECKS.same("word(249)", text.word(249), Markup.bytes("mp;&amp;"));
        MarkupTokens value = Markup.read("<a b=" + "\0".repeat(394) + ">");
        CHECKS.same("write() of many 0s", value.write(), 6 + 394 * 8 + 2);
        CHECKS.same("faults() of many 0s", value.faults(), 394);
        CHECKS.same("word(394)", value.word(394), Markup.bytes("65533;\">"));
    }
}
