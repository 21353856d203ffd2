/** Promise 3: clear. */
public final class ClearTest {
    private static final Checks CHECKS = new Checks();

    public static void main(String[] args) {
        answersHowManyBytesItHad();
        countsBytesNotCharacters();
        leavesTheRestAlone();
        leavesRoomForAWholeText();
        leavesNothingOfTheText();
        CHECKS.end();
    }

    private static void answersHowManyBytesItHad() {
        CHECKS.same("clear() of a new object", new MarkupTokens().clear(), 0);
        for (int length : new int[] {1, 7, 8, 9, 399, 400}) {
            MarkupTokens x = new MarkupTokens();
            Markup.feed(x, "a".repeat(length));
            CHECKS.same("clear() of " + length, x.clear(), length);
            CHECKS.same("clear() behind it", x.clear(), 0);
        }
    }

    private static void countsBytesNotCharacters() {
        MarkupTokens x = Markup.read("\r\n\r\n&amp;");
        CHECKS.same("characters", x.token(0, 1), 3);
        CHECKS.same("clear()", x.clear(), 9);
    }

    private static void leavesTheRestAlone() {
        MarkupTokens x = Markup.read("<a></>b");
        CHECKS.same("write()", x.write(), 4);
        String before = Markup.state(x);
        CHECKS.same("clear()", x.clear(), 7);
        CHECKS.same("state", Markup.state(x), before);
        CHECKS.same("tokens", Markup.tokens(x), "<a> | \"b\"");
        CHECKS.same("faults", Markup.faults(x), "5@5");
        CHECKS.same("word(0)", x.word(0), Markup.bytes("<a>b"));
        CHECKS.same("clear() of an empty text", x.clear(), 0);
        CHECKS.same("state behind that", Markup.state(x), before);
        CHECKS.same("write() of the tokens that stayed", x.write(), 4);
    }

    private static void leavesRoomForAWholeText() {
        MarkupTokens x = new MarkupTokens();
        Markup.feed(x, "a".repeat(400));
        x.clear();
        Markup.feed(x, "b".repeat(400));
        CHECKS.same("run()", x.run(), 1);
        CHECKS.same("tokens", Markup.tokens(x), "\"" + "b".repeat(400) + "\"");
    }

    private static void leavesNothingOfTheText() {
        MarkupTokens x = Markup.read("<a><b><c>");
        x.clear();
        CHECKS.same("run() of the empty text", x.run(), 0);
        CHECKS.same("faults() of the empty text", x.faults(), 0);
        x.feed('d', 1);
        CHECKS.same("run() of a new text", x.run(), 1);
        CHECKS.same("tokens of a new text", Markup.tokens(x), "\"d\"");
    }
}
