/** Promises 2 to 4: feed, clear and again; and which characters the bytes of a text are. */
public final class TextTest {
    private static final Checks CHECKS = new Checks();

    public static void main(String[] args) {
        feedsTheLowestFirst();
        refusesWrongCounts();
        isFullAtFourHundred();
        clearsTheTextAlone();
        takesTheOutAgain();
        refusesALongOut();
        readsBytesAsCharacters();
        readsNothingBehindTheText();
        CHECKS.end();
    }

    private static void feedsTheLowestFirst() {
        MarkupTokens x = new MarkupTokens();
        CHECKS.same("feed of 3", x.feed(0x6867666564636261L, 3), 3);
        CHECKS.same("feed of 1", x.feed(0x7aL, 1), 4);
        CHECKS.same("feed of 8", x.feed(0x6867666564636261L, 8), 12);
        CHECKS.same("run()", x.run(), 1);
        CHECKS.same("tokens", Markup.tokens(x), "\"abczabcdefgh\"");
    }

    private static void refusesWrongCounts() {
        MarkupTokens x = new MarkupTokens();
        int[] counts = {0, -1, 9, Integer.MIN_VALUE, Integer.MAX_VALUE};
        for (int n : counts) {
            CHECKS.same("feed of " + n, x.feed(0x61L, n), MarkupTokens.BAD);
        }
        CHECKS.same("clear() behind refused feeds", x.clear(), 0);
    }

    private static void isFullAtFourHundred() {
        MarkupTokens x = new MarkupTokens();
        for (int k = 1; k < 50; k++) {
            CHECKS.same("feed " + k, x.feed(0x6161616161616161L, 8), 8 * k);
        }
        CHECKS.same("feed to 399", x.feed(0x61616161616161L, 7), 399);
        CHECKS.same("feed beyond 400", x.feed(0x6262L, 2), MarkupTokens.FULL);
        CHECKS.same("feed to 400", x.feed(0x62L, 1), 400);
        CHECKS.same("feed to a full text", x.feed(0x62L, 1), MarkupTokens.FULL);
        CHECKS.same("a wrong count to a full text", x.feed(0x62L, 0), MarkupTokens.BAD);
        CHECKS.same("run()", x.run(), 1);
        CHECKS.same("token(0, 1)", x.token(0, 1), 400);
        CHECKS.same("at(0, 398)", x.at(0, 398), (int) 'a');
        CHECKS.same("at(0, 399)", x.at(0, 399), (int) 'b');
        CHECKS.same("clear()", x.clear(), 400);
    }

    private static void clearsTheTextAlone() {
        MarkupTokens x = Markup.read("<a></>b");
        CHECKS.same("write()", x.write(), 4);
        CHECKS.same("clear()", x.clear(), 7);
        CHECKS.same("clear() again", x.clear(), 0);
        CHECKS.same("tokens", Markup.tokens(x), "<a> | \"b\"");
        CHECKS.same("faults", Markup.faults(x), "5@5");
        CHECKS.same("word(0)", x.word(0), Markup.bytes("<a>b"));
        CHECKS.same("feed", x.feed(0x63L, 1), 1);
        CHECKS.same("run()", x.run(), 1);
        CHECKS.same("tokens of the new text", Markup.tokens(x), "\"c\"");
        CHECKS.same("faults of the new text", x.faults(), 0);
        CHECKS.same("word(0) before it is written", x.word(0), Markup.bytes("<a>b"));
    }

    private static void takesTheOutAgain() {
        MarkupTokens x = Markup.read("a&lt<B c>");
        CHECKS.same("again() before write()", x.again(), 0);
        CHECKS.same("tokens are left alone", Markup.tokens(x), "\"a<\" | <b c=''>");
        CHECKS.same("faults are left alone", Markup.faults(x), "25@4");
        CHECKS.same("write()", x.write(), 13);
        CHECKS.same("again()", x.again(), 13);
        CHECKS.same("the out stays", x.word(0), Markup.bytes("a&lt;<b "));
        CHECKS.same("feed behind it", x.feed(0x64L, 1), 14);
        CHECKS.same("run()", x.run(), 3);
        CHECKS.same("tokens", Markup.tokens(x), "\"a<\" | <b c=''> | \"d\"");
        CHECKS.same("faults", x.faults(), 0);
        CHECKS.same("clear()", x.clear(), 14);
    }

    private static void refusesALongOut() {
        MarkupTokens x = Markup.read("&".repeat(80));
        CHECKS.same("write() of 400", x.write(), 400);
        CHECKS.same("again() of 400", x.again(), 400);
        CHECKS.same("run()", x.run(), 1);
        CHECKS.same("token(0, 1)", x.token(0, 1), 80);
        x.clear();
        Markup.feed(x, "&".repeat(80) + "b");
        x.run();
        CHECKS.same("write() of 401", x.write(), 401);
        CHECKS.same("again() of 401", x.again(), MarkupTokens.FULL);
        CHECKS.same("the text is left alone", x.clear(), 81);
        CHECKS.same("the out is left alone", x.word(50), (long) 'b');
    }

    private static void readsNothingBehindTheText() {
        MarkupTokens x = Markup.read("a\r\n");
        x.clear();
        Markup.feed(x, "a\r");
        x.run();
        CHECKS.same("a 13 before a 10 that was cleared", Markup.tokens(x), "\"a[10]\"");
        MarkupTokens full = Markup.read("\r".repeat(400));
        CHECKS.same("400 times 13", full.token(0, 1), 400);
        CHECKS.same("the last 13", full.at(0, 399), 10);
    }

    private static void readsBytesAsCharacters() {
        CHECKS.cut("a\r\nb\rc\nd", "\"a[10]b[10]c[10]d\"", "");
        CHECKS.cut("\r\r\n\n\r", "\"[10][10][10][10]\"", "");
        CHECKS.cut("\r\n\r\n<", "\"[10][10]<\"", "3@3");
        CHECKS.cut("\u007f\u0080\u00ff", "\"[127][128][255]\"", "");
        MarkupTokens x = Markup.read("\r\n");
        CHECKS.same("clear() counts the bytes", x.clear(), 2);
        MarkupTokens parted = new MarkupTokens();
        parted.feed(13, 1);
        parted.feed(10, 1);
        parted.run();
        CHECKS.same("13 and 10 of two feeds", Markup.tokens(parted), "\"[10]\"");
    }
}
