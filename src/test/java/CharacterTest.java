/** The terms: which characters the bytes of a text are, the 13s, places, and END. */
public final class CharacterTest {
    private static final Checks CHECKS = new Checks();

    public static void main(String[] args) {
        areBytesByTheirNumber();
        leaveOutA13BeforeA10();
        readOther13sAs10();
        lookAtTheTextAlone();
        lookAcrossFeeds();
        read13sInEachToken();
        keepA13OfAReference();
        read13sAtTheLimit();
        havePlacesFromZero();
        havePlacesWithoutWhatIsLeftOut();
        endBehindTheLast();
        CHECKS.end();
    }

    private static void areBytesByTheirNumber() {
        for (char c = 0; c < 256; c++) {
            if (c != '\r' && c != '<') {
                CHECKS.cut("x" + c, "\"x" + Markup.visible(c) + "\"", c == 0 ? "1@1" : "");
            }
        }
    }

    private static void leaveOutA13BeforeA10() {
        CHECKS.cut("\r\n", "\"[10]\"", "");
        CHECKS.cut("a\r\nb", "\"a[10]b\"", "");
        CHECKS.cut("\r\n\r\n", "\"[10][10]\"", "");
        CHECKS.cut("\r\n\n", "\"[10][10]\"", "");
        CHECKS.cut("\r\r\n", "\"[10][10]\"", "");
    }

    private static void readOther13sAs10() {
        CHECKS.cut("\r", "\"[10]\"", "");
        CHECKS.cut("\r\r", "\"[10][10]\"", "");
        CHECKS.cut("\n\r", "\"[10][10]\"", "");
        CHECKS.cut("\ra", "\"[10]a\"", "");
        CHECKS.cut("\r\0\n", "\"[10][0][10]\"", "1@1");
        CHECKS.cut("\u008d\n\r\u008a", "\"[141][10][10][138]\"", "");
    }

    /** A 10 that was behind the 13 in a text before is none of this one. */
    private static void lookAtTheTextAlone() {
        MarkupTokens x = Markup.read("a\r\n");
        x.clear();
        Markup.feed(x, "a\r");
        x.run();
        CHECKS.same("a 13 before a 10 that was cleared", Markup.tokens(x), "\"a[10]\"");
        MarkupTokens shorter = Markup.read("a\r\nbcd");
        shorter.clear();
        Markup.feed(shorter, "ab\r");
        shorter.run();
        CHECKS.same("a 13 in the place of a 10", Markup.tokens(shorter), "\"ab[10]\"");
    }

    private static void lookAcrossFeeds() {
        MarkupTokens x = new MarkupTokens();
        x.feed(13, 1);
        x.run();
        CHECKS.same("a 13 alone", Markup.tokens(x), "\"[10]\"");
        x.feed(10, 1);
        x.run();
        CHECKS.same("a 10 behind it", Markup.tokens(x), "\"[10]\"");
        x.feed(13, 1);
        x.feed(13, 1);
        x.run();
        CHECKS.same("two 13s behind it", Markup.tokens(x), "\"[10][10][10]\"");
    }

    private static void read13sInEachToken() {
        CHECKS.cut("<a\r\nb\r=\r\nc\r>", "<a b='c'>", "");
        CHECKS.cut("<a b='\r\n\r'>", "<a b='[10][10]'>", "");
        CHECKS.cut("<!--\r\n\r-->", "{[10][10]}", "");
        CHECKS.cut("<?\r\n\r>", "{?[10][10]}", "2@1");
        CHECKS.cut("<!doctype\r\na\r>", "!a", "");
        CHECKS.cut("<\r\na", "\"<[10]a\"", "4@1");
    }

    private static void keepA13OfAReference() {
        CHECKS.cut("&#13;\n", "\"[13][10]\"", "32@5");
        CHECKS.cut("&#13\n", "\"[13][10]\"", "25@4 32@4");
        CHECKS.cut("\r&#10;", "\"[10][10]\"", "");
        CHECKS.cut("<a b='&#13;\n'>", "<a b='[13][10]'>", "32@11");
    }

    private static void read13sAtTheLimit() {
        CHECKS.cut("a".repeat(399) + "\r", "\"" + "a".repeat(399) + "[10]\"", "");
        CHECKS.cut("a".repeat(398) + "\r\n", "\"" + "a".repeat(398) + "[10]\"", "");
        MarkupTokens all = Markup.read("\r".repeat(400));
        CHECKS.same("400 times 13", all.token(0, 1), 400);
        CHECKS.same("the last 13", all.at(0, 399), 10);
        CHECKS.same("200 times 13 and 10", Markup.read("\r\n".repeat(200)).token(0, 1), 200);
        CHECKS.same("399 times 13 and a 10", Markup.read("\r".repeat(399) + "\n").token(0, 1), 399);
    }

    private static void havePlacesFromZero() {
        CHECKS.cut("\0", "\"[0]\"", "1@0");
        CHECKS.cut("a\0\0", "\"a[0][0]\"", "1@1 1@2");
        CHECKS.cut("a".repeat(399) + "\0", "\"" + "a".repeat(399) + "[0]\"", "1@399");
    }

    private static void havePlacesWithoutWhatIsLeftOut() {
        CHECKS.cut("\r\n\0", "\"[10][0]\"", "1@1");
        CHECKS.cut("\r\r\n\0", "\"[10][10][0]\"", "1@2");
        CHECKS.cut("\r\0\r\n\0", "\"[10][0][10][0]\"", "1@1 1@3");
        CHECKS.cut("<a\r\n\"\r\n'>", "<a \"='' '=''>", "8@3 8@5");
    }

    private static void endBehindTheLast() {
        CHECKS.cut("<", "\"<\"", "3@1");
        CHECKS.cut("\r\n<", "\"[10]<\"", "3@2");
        CHECKS.cut("\r<", "\"[10]<\"", "3@2");
        CHECKS.cut("<a\r\n", "", "6@3");
        CHECKS.cut("<!--\r", "{[10]}", "18@5");
        CHECKS.cut("a".repeat(399) + "<", "\"" + "a".repeat(399) + "<\"", "3@400");
        CHECKS.cut("a".repeat(397) + "\r\n<", "\"" + "a".repeat(397) + "[10]<\"", "3@399");
        CHECKS.cut("<" + "a".repeat(399), "", "6@400");
    }
}
