/** Promise 5: how often a text is cut, what is left of the run before, and where tokens begin and end. */
public final class RunTest {
    private static final Checks CHECKS = new Checks();

    public static void main(String[] args) {
        answersHowManyTokens();
        leavesTheTextAlone();
        readsWhatWasFedSince();
        forgetsTheRunBefore();
        tellsNoEmptyText();
        gathersTextUntilAnotherToken();
        dropsAtTheEnd();
        readsNothingBehindTheEnd();
        CHECKS.end();
    }

    private static void answersHowManyTokens() {
        String[] texts = {"", "a", "</>", "<a", "<a>", "a<b>", "a<b>c</d>", "<!---->", "<!doctype>", "<a><b><c>"};
        int[] due = {0, 1, 0, 0, 1, 2, 4, 1, 1, 3};
        for (int k = 0; k < texts.length; k++) {
            MarkupTokens x = new MarkupTokens();
            Markup.feed(x, texts[k]);
            CHECKS.same("run() of " + texts[k], x.run(), due[k]);
        }
    }

    private static void leavesTheTextAlone() {
        MarkupTokens x = Markup.read("a<b c=d></>");
        x.write();
        String before = Markup.state(x);
        CHECKS.same("run() again", x.run(), 2);
        CHECKS.same("state", Markup.state(x), before);
        CHECKS.same("clear()", x.clear(), 11);
    }

    private static void readsWhatWasFedSince() {
        MarkupTokens x = new MarkupTokens();
        CHECKS.same("run() of nothing", x.run(), 0);
        Markup.feed(x, "a<b c=d>");
        CHECKS.same("tokens until the next run()", Markup.tokens(x), "");
        CHECKS.same("run()", x.run(), 2);
        Markup.feed(x, "</b>");
        CHECKS.same("tokens until the run() behind it", Markup.tokens(x), "\"a\" | <b c='d'>");
        CHECKS.same("run() of more", x.run(), 3);
        CHECKS.same("tokens of more", Markup.tokens(x), "\"a\" | <b c='d'> | </b>");
    }

    /** One object, one text behind the other. */
    private static void forgetsTheRunBefore() {
        String[] texts = {
            "<a b=c d/>", "<a>", "e", "</f>", "<!doctype>", "<!doctype g>", "<!--a<!--b-->",
            "<!--abc--d-->", "<h i", "j", "<!doctype k l", "m<n o=p>", "<!--q", "&#0;",
            "<r s=t s=u", "<v s", "<w x='", "y\"z", ""
        };
        MarkupTokens x = new MarkupTokens();
        for (String text : texts) {
            MarkupTokens fresh = Markup.read(text);
            x.clear();
            Markup.feed(x, text);
            x.run();
            CHECKS.same("tokens of " + text, Markup.tokens(x), Markup.tokens(fresh));
            CHECKS.same("faults of " + text, Markup.faults(x), Markup.faults(fresh));
        }
    }

    private static void tellsNoEmptyText() {
        CHECKS.cut("<a></a>", "<a> | </a>", "");
        CHECKS.cut("<a></></a>", "<a> | </a>", "5@5");
        CHECKS.cut("</></>", "", "5@2 5@5");
        CHECKS.cut("<!----><!doctype a>", "{} | !a", "");
    }

    private static void gathersTextUntilAnotherToken() {
        CHECKS.cut("a</>b", "\"ab\"", "5@3");
        CHECKS.cut("a< b<1", "\"a< b<1\"", "4@2 4@5");
        CHECKS.cut("a&amp;b&zz;c", "\"a&b&zz;c\"", "26@10");
        CHECKS.cut("a\0b", "\"a[0]b\"", "1@1");
        CHECKS.cut("a</", "\"a</\"", "3@3");
        CHECKS.cut("a<!>b", "\"a\" | {} | \"b\"", "16@3");
        CHECKS.cut("a<b>c", "\"a\" | <b> | \"c\"", "");
    }

    /** The tag is not told, but what was told before it is, and so are its faults. */
    private static void dropsAtTheEnd() {
        CHECKS.cut("a<b>c<d \"=&#0 e", "\"a\" | <b> | \"c\"", "8@8 25@13 28@13 6@15");
        CHECKS.cut("a</b \0", "\"a\"", "1@5 6@6");
        CHECKS.cut("a<b c='<d>e", "\"a\"", "6@11");
        CHECKS.cut("<b", "", "6@2");
    }

    private static void readsNothingBehindTheEnd() {
        MarkupTokens x = Markup.read("<a><b>ccc");
        x.clear();
        Markup.feed(x, "<a");
        CHECKS.same("run()", x.run(), 0);
        CHECKS.same("faults", Markup.faults(x), "6@2");
        CHECKS.same("write()", x.write(), 0);
    }
}
