/** Promise 5: the ways DATA, TAG, ENDTAG, MARK and BOGUS, and how text gathers. */
public final class DataTest {
    private static final Checks CHECKS = new Checks();

    public static void main(String[] args) {
        data();
        tag();
        endTag();
        markAndBogus();
        CHECKS.end();
    }

    private static void data() {
        CHECKS.cut("", "", "");
        CHECKS.cut("a>b\"'=/!-", "\"a>b\"'=/!-\"", "");
        CHECKS.cut("a\0b", "\"a[0]b\"", "1@1");
        CHECKS.cut("a<b>c</b>d", "\"a\" | <b> | \"c\" | </b> | \"d\"", "");
        CHECKS.cut("a</>b< c", "\"ab< c\"", "5@3 4@6");
        CHECKS.cut("a<b c", "\"a\"", "6@5");
    }

    private static void tag() {
        CHECKS.cut("<", "\"<\"", "3@1");
        CHECKS.cut("<<a>", "\"<\" | <a>", "4@1");
        CHECKS.cut("<1", "\"<1\"", "4@1");
        CHECKS.cut("<\0", "\"<[0]\"", "4@1 1@1");
        CHECKS.cut("<&amp;", "\"<&\"", "4@1");
        CHECKS.cut("<@<[<`<{", "\"<@<[<`<{\"", "4@1 4@3 4@5 4@7");
        CHECKS.cut("<A><Z><a><z>", "<a> | <z> | <a> | <z>", "");
        CHECKS.cut("<?x y?>z", "{?x y?} | \"z\"", "2@1");
    }

    private static void endTag() {
        CHECKS.cut("</", "\"</\"", "3@2");
        CHECKS.cut("a</", "\"a</\"", "3@3");
        CHECKS.cut("</>", "", "5@2");
        CHECKS.cut("</ a>", "{ a}", "4@2");
        CHECKS.cut("</\0>", "{[65533]}", "4@2 1@2");
        CHECKS.cut("</A>", "</a>", "");
        CHECKS.cut("</a", "", "6@3");
    }

    private static void markAndBogus() {
        CHECKS.cut("<!", "{}", "16@2");
        CHECKS.cut("<!>", "{}", "16@2");
        CHECKS.cut("<!-", "{-}", "16@2");
        CHECKS.cut("<!->a", "{-} | \"a\"", "16@2");
        CHECKS.cut("<!-x->", "{-x-}", "16@2");
        CHECKS.cut("<!doctyp>", "{doctyp}", "16@2");
        CHECKS.cut("<!DOCTYP", "{DOCTYP}", "16@2");
        CHECKS.cut("<!xoctype>", "{xoctype}", "16@2");
        CHECKS.cut("<![CDATA[a]]>", "{[CDATA[a]]}", "16@2");
        CHECKS.cut("<!\0&amp;<a", "{[65533]&amp;<a}", "16@2 1@2");
        CHECKS.cut("<?", "{?}", "2@1");
        CHECKS.cut("<?\0A>", "{?[65533]A}", "2@1 1@2");
    }
}
