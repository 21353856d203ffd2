/** Promise 12, and the term WRITTEN: write. */
public final class WriteTest {
    private static final Checks CHECKS = new Checks();
    private static final int[] ABOVE_BYTES = {
        256, 402, 999, 1000, 1001, 8364, 9999, 10000, 10001, 65532, 65533, 65534, 65535, 65536,
        99999, 100000, 100001, 999999, 1000000, 1000001, 1114109, 1114110, 1114111
    };

    public static void main(String[] args) {
        nothing();
        texts();
        everyByteInTexts();
        aboveBytesInTexts();
        tags();
        everyByteInTagNames();
        everyByteInAttributeNames();
        everyByteInValues();
        aboveBytesInValues();
        unknownInNames();
        comments();
        everyByteInComments();
        doctypes();
        everyByteInDoctypes();
        allTokensInTheirOrder();
        writesTheLatestRun();
        writesTheSameTwice();
        longOuts();
        CHECKS.end();
    }

    private static void nothing() {
        CHECKS.same("write() of a new object", new MarkupTokens().write(), 0);
        CHECKS.written("", "");
        CHECKS.written("</>", "");
        CHECKS.written("<a b='c'", "");
    }

    private static void texts() {
        CHECKS.written("a>\"'\n\u00ff\0", "a>\"'\n\u00ff\0");
        CHECKS.written("&&lt;<&gt;", "&amp;&lt;&lt;>");
        CHECKS.written("\r&#13;&#10;", "\n&#13;\n");
        CHECKS.written("&#255;&#256;&euro;&#0;&#1114109;", "\u00ff&#256;&#8364;&#65533;&#1114109;");
        CHECKS.written("&#129;&#128;", "\u0081&#8364;");
        CHECKS.written("&amp;amp;&amp;#13;", "&amp;amp;&amp;#13;");
    }

    /** All but & and < and 13 are written as they are: 0, 10, 128 to 255 too. */
    private static void everyByteInTexts() {
        for (int c = 1; c < 256; c++) {
            if (c < 127 || c > 159) {
                CHECKS.written("x&#" + c + ";y", "x" + textForm(c) + "y");
            }
            if (c != '\r') {
                CHECKS.written("x" + (char) c + " ", "x" + textForm(c) + " ");
            }
        }
        CHECKS.written("x\0y", "x\0y");
        CHECKS.written("x\ry", "x\ny");
    }

    private static String textForm(int c) {
        switch (c) {
            case '&':
                return "&amp;";
            case '<':
                return "&lt;";
            case '\r':
                return "&#13;";
            default:
                return String.valueOf((char) c);
        }
    }

    private static void aboveBytesInTexts() {
        for (int c : ABOVE_BYTES) {
            CHECKS.written("x&#" + c + ";1", "x&#" + c + ";1");
            CHECKS.written("x&#x" + Integer.toHexString(c) + "g", "x&#" + c + ";g");
        }
    }

    private static void tags() {
        CHECKS.written("<A>b</A >", "<a>b</a>");
        CHECKS.written("<a/>", "<a/>");
        CHECKS.written("<a B=C d e='f'>", "<a b=\"C\" d=\"\" e=\"f\">");
        CHECKS.written("<a b=1 b=2 c/>", "<a b=\"1\" c=\"\"/>");
        CHECKS.written("</a b=c />", "</a>");
        CHECKS.written("<a b='\"&<>&#13;&euro;\0'>", "<a b=\"&quot;&amp;<>&#13;&#8364;&#65533;\">");
        CHECKS.written("<a =\">", "<a =\"=\"\">");
        CHECKS.written("<a b=/ >", "<a b=\"/\">");
        CHECKS.written("a<b c", "a");
    }

    private static void everyByteInTagNames() {
        for (char c = 0; c < 256; c++) {
            if ((Step.BLANKS + "/>").indexOf(c) < 0) {
                char small = c >= 'A' && c <= 'Z' ? (char) (c + 32) : c;
                CHECKS.written("<n" + c + ">", "<n" + small + ">");
                CHECKS.written("</n" + c + ">", "</n" + small + ">");
            }
        }
    }

    private static void everyByteInAttributeNames() {
        for (char c = 0; c < 256; c++) {
            if ((Step.BLANKS + "/>=").indexOf(c) < 0) {
                char small = c >= 'A' && c <= 'Z' ? (char) (c + 32) : c;
                CHECKS.written("<n a" + c + "/>", "<n a" + small + "=\"\"/>");
            }
        }
        CHECKS.written("<n =>", "<n ==\"\">");
    }

    private static void everyByteInValues() {
        for (char c = 1; c < 256; c++) {
            if (c != '\r' && c != '\'') {
                CHECKS.written("<n a='x" + c + " '>", "<n a=\"x" + valueForm(c) + " \">");
            }
            if (c < 127 || c > 159) {
                CHECKS.written("<n a=x&#" + (int) c + ";y>", "<n a=\"x" + valueForm(c) + "y\">");
            }
        }
        CHECKS.written("<n a='\0'>", "<n a=\"&#65533;\">");
        CHECKS.written("<n a='\r'>", "<n a=\"\n\">");
    }

    private static String valueForm(char c) {
        switch (c) {
            case '"':
                return "&quot;";
            case '<':
                return "<";
            default:
                return textForm(c);
        }
    }

    private static void aboveBytesInValues() {
        for (int c : ABOVE_BYTES) {
            CHECKS.written("<n a=x&#" + c + ";1>", "<n a=\"x&#" + c + ";1\">");
        }
    }

    private static void unknownInNames() {
        CHECKS.written("<a\0 \0='c' d\0>", "<a\0 \0=\"c\" d\0=\"\">");
        CHECKS.written("</a\0>", "</a\0>");
        CHECKS.written("<?\0><!--\0-->", "<!--?\0--><!--\0-->");
        CHECKS.written("<!doctype \0>", "<!DOCTYPE \0>");
    }

    private static void comments() {
        CHECKS.written("<!--a-b-->", "<!--a-b-->");
        CHECKS.written("<!-->", "<!---->");
        CHECKS.written("<!>", "<!---->");
        CHECKS.written("<?a&<\0>", "<!--?a&<\0-->");
        CHECKS.written("<!--\u00e9", "<!--\u00e9-->");
        CHECKS.written("<!--a--!>", "<!--a-->");
    }

    private static void everyByteInComments() {
        for (char c = 0; c < 256; c++) {
            if (c != '\r') {
                CHECKS.written("<!--x" + c + "y-->", "<!--x" + c + "y-->");
            }
        }
        CHECKS.written("<!--x\ry-->", "<!--x\ny-->");
    }

    /** A doctype without a name is always odd, and has no x. */
    private static void doctypes() {
        CHECKS.written("<!doctype  HTML >", "<!DOCTYPE html>");
        CHECKS.written("<!doctype html public>", "<!DOCTYPE html x>");
        CHECKS.written("<!doctype html", "<!DOCTYPE html x>");
        CHECKS.written("<!doctype>", "<!DOCTYPE>");
        CHECKS.written("<!doctype", "<!DOCTYPE>");
        CHECKS.written("<!doctype ", "<!DOCTYPE>");
        CHECKS.written("<!doctype \0", "<!DOCTYPE \0 x>");
    }

    private static void everyByteInDoctypes() {
        for (char c = 0; c < 256; c++) {
            if ((Step.BLANKS + ">").indexOf(c) < 0) {
                char small = c >= 'A' && c <= 'Z' ? (char) (c + 32) : c;
                CHECKS.written("<!doctype n" + c + ">", "<!DOCTYPE n" + small + ">");
            }
        }
    }

    private static void allTokensInTheirOrder() {
        CHECKS.written(AnyTokens.TEXT,
                "t&#8364;<ab cd=\"efg\" h=\"\"/><!--xyz--></s><!DOCTYPE d x><!DOCTYPE>");
    }

    private static void writesTheLatestRun() {
        MarkupTokens x = Markup.read("<a>bcdefghijk");
        CHECKS.same("write()", x.write(), 13);
        x.clear();
        Markup.feed(x, "xy");
        CHECKS.same("write() before the next run()", x.write(), 13);
        x.run();
        CHECKS.same("the out before the next write()", x.word(0), Markup.bytes("<a>bcdef"));
        CHECKS.same("write() of less", x.write(), 2);
        CHECKS.same("word(0) of less", x.word(0), Markup.bytes("xy"));
        CHECKS.same("word(1) of less", x.word(1), 0L);
        x.clear();
        x.run();
        CHECKS.same("write() of nothing", x.write(), 0);
        CHECKS.same("word(0) of nothing", x.word(0), 0L);
    }

    private static void writesTheSameTwice() {
        MarkupTokens x = Markup.read("a<b c=d></>");
        CHECKS.same("write()", x.write(), 10);
        String before = Markup.state(x);
        CHECKS.same("write() again", x.write(), 10);
        CHECKS.same("state", Markup.state(x), before);
        CHECKS.same("clear()", x.clear(), 11);
    }

    /** A 0 in a value is written as eight bytes: no character takes more. */
    private static void longOuts() {
        CHECKS.written("&".repeat(400), "&amp;".repeat(400));
        CHECKS.written("\"".repeat(400), "\"".repeat(400));
        CHECKS.written("<n a=" + "\0".repeat(394) + ">", "<n a=\"" + "&#65533;".repeat(394) + "\">");
        CHECKS.written("<n a='" + "\"".repeat(392) + "'>", "<n a=\"" + "&quot;".repeat(392) + "\">");
        CHECKS.written("a<!>".repeat(100), "a<!---->".repeat(100));
        CHECKS.written("<a b>".repeat(80), "<a b=\"\">".repeat(80));
    }
}
