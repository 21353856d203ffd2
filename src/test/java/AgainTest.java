/** Promise 4: again. */
public final class AgainTest {
    private static final Checks CHECKS = new Checks();
    private static final int FULL = MarkupTokens.FULL;

    public static void main(String[] args) {
        takesTheOut();
        takesAnEmptyOut();
        takesTheLatestOut();
        takesTheOutInsteadOfTheText();
        takesEveryByte();
        isTheWholeText();
        takesUpToTheLimit();
        isFullBeyondTheLimit();
        changesNothingWhenFull();
        CHECKS.end();
    }

    private static void takesTheOut() {
        MarkupTokens x = Markup.read("a&lt<B c>");
        CHECKS.same("write()", x.write(), 13);
        String before = Markup.state(x);
        CHECKS.same("again()", x.again(), 13);
        CHECKS.same("tokens, faults and the out stay", Markup.state(x), before);
        CHECKS.same("again() once more", x.again(), 13);
        CHECKS.same("run()", x.run(), 2);
        CHECKS.same("tokens", Markup.tokens(x), "\"a<\" | <b c=''>");
        CHECKS.same("faults", Markup.faults(x), "");
        CHECKS.same("clear()", x.clear(), 13);
    }

    private static void takesAnEmptyOut() {
        CHECKS.same("again() of a new object", new MarkupTokens().again(), 0);
        MarkupTokens x = Markup.read("a</>");
        CHECKS.same("again() before write()", x.again(), 0);
        CHECKS.same("tokens stay", Markup.tokens(x), "\"a\"");
        CHECKS.same("faults stay", Markup.faults(x), "5@3");
        CHECKS.same("clear()", x.clear(), 0);
        MarkupTokens dropped = Markup.read("<a");
        CHECKS.same("write() of no tokens", dropped.write(), 0);
        CHECKS.same("again() of it", dropped.again(), 0);
        CHECKS.same("run() of it", dropped.run(), 0);
    }

    /** Not the tokens: those of a later run() come to the out when they are written. */
    private static void takesTheLatestOut() {
        MarkupTokens x = Markup.read("<A>");
        x.write();
        x.clear();
        Markup.feed(x, "b");
        x.run();
        CHECKS.same("again()", x.again(), 3);
        x.run();
        CHECKS.same("tokens", Markup.tokens(x), "<a>");
    }

    private static void takesTheOutInsteadOfTheText() {
        MarkupTokens x = Markup.read("<A>");
        x.write();
        x.clear();
        Markup.feed(x, "b".repeat(400));
        CHECKS.same("again() into a full text", x.again(), 3);
        CHECKS.same("feed behind it", x.feed('c', 1), 4);
        CHECKS.same("run()", x.run(), 2);
        CHECKS.same("tokens", Markup.tokens(x), "<a> | \"c\"");
    }

    private static void takesEveryByte() {
        StringBuilder all = new StringBuilder();
        for (char c = 0; c < 256; c++) {
            all.append(c == '&' || c == '<' || c == '\r' ? 'x' : c);
        }
        MarkupTokens x = Markup.read(all.toString());
        CHECKS.same("write()", x.write(), 256);
        CHECKS.same("again()", x.again(), 256);
        CHECKS.same("run()", x.run(), 1);
        for (int k = 0; k < 256; k++) {
            CHECKS.same("at(0, " + k + ")", x.at(0, k), (int) all.charAt(k));
        }
    }

    /** It is a text like any other, with the same limit. */
    private static void isTheWholeText() {
        MarkupTokens x = Markup.read("&".repeat(79) + "bcd");
        CHECKS.same("write()", x.write(), 398);
        CHECKS.same("again()", x.again(), 398);
        CHECKS.same("feed of 3", x.feed(0x656565L, 3), FULL);
        CHECKS.same("feed of 2", x.feed(0x6565L, 2), 400);
        CHECKS.same("feed of 1", x.feed(0x65L, 1), FULL);
        CHECKS.same("run()", x.run(), 1);
        CHECKS.same("tokens", Markup.tokens(x), "\"" + "&".repeat(79) + "bcdee\"");
    }

    private static void takesUpToTheLimit() {
        MarkupTokens less = Markup.read("&".repeat(79) + "bcde");
        CHECKS.same("write() of 399", less.write(), 399);
        CHECKS.same("again() of 399", less.again(), 399);
        CHECKS.same("clear() of 399", less.clear(), 399);
        MarkupTokens x = Markup.read("&".repeat(80));
        CHECKS.same("write() of 400", x.write(), 400);
        CHECKS.same("again() of 400", x.again(), 400);
        CHECKS.same("run()", x.run(), 1);
        CHECKS.same("tokens", Markup.tokens(x), "\"" + "&".repeat(80) + "\"");
        CHECKS.same("clear() of 400", x.clear(), 400);
    }

    private static void isFullBeyondTheLimit() {
        MarkupTokens x = Markup.read("&".repeat(80) + "b");
        CHECKS.same("again() before write()", x.again(), 0);
        CHECKS.same("write() of 401", x.write(), 401);
        CHECKS.same("again() of 401", x.again(), FULL);
        MarkupTokens much = Markup.read("<n a=" + "\0".repeat(394) + ">");
        CHECKS.same("write() of the most", much.write(), 3160);
        CHECKS.same("again() of the most", much.again(), FULL);
    }

    private static void changesNothingWhenFull() {
        MarkupTokens x = Markup.read("&".repeat(80) + "b<");
        x.write();
        String before = Markup.state(x);
        CHECKS.same("again()", x.again(), FULL);
        CHECKS.same("tokens, faults and the out", Markup.state(x), before);
        CHECKS.same("the out's end", x.word(50), Markup.bytes("b&lt;"));
        CHECKS.same("run()", x.run(), 1);
        CHECKS.same("the text as it was", Markup.state(x), before);
        CHECKS.same("clear()", x.clear(), 82);
        CHECKS.same("again() with an empty text", x.again(), FULL);
        CHECKS.same("clear() behind it", x.clear(), 0);
    }
}
