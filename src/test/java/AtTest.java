/** Promise 7: at. */
public final class AtTest {
    private static final Checks CHECKS = new Checks();
    private static final int BAD = MarkupTokens.BAD;

    public static void main(String[] args) {
        tellsEachCharacter();
        isBadBehindTheLast();
        isBadWithoutSuchACharacter();
        isBadWithoutSuchAToken();
        isBadInAnEmptyOne();
        isBadBeforeARun();
        isOfTheLatestRun();
        tellsTheMostCharacters();
        CHECKS.end();
    }

    private static void tellsEachCharacter() {
        MarkupTokens x = Markup.read(AnyTokens.TEXT);
        CHECKS.same("at(0, 0)", x.at(0, 0), (int) 't');
        CHECKS.same("at(0, 1)", x.at(0, 1), 8364);
        CHECKS.same("at(1, 0)", x.at(1, 0), (int) 'a');
        CHECKS.same("at(1, 1)", x.at(1, 1), (int) 'b');
        CHECKS.same("at(2, 0)", x.at(2, 0), (int) 'x');
        CHECKS.same("at(2, 2)", x.at(2, 2), (int) 'z');
        CHECKS.same("at(3, 0)", x.at(3, 0), (int) 's');
        CHECKS.same("at(4, 0)", x.at(4, 0), (int) 'd');
        MarkupTokens wide = Markup.read("&#1114111;\0\u00ff&#13;");
        CHECKS.same("the greatest", wide.at(0, 0), 1114111);
        CHECKS.same("the least", wide.at(0, 1), 0);
        CHECKS.same("the greatest byte", wide.at(0, 2), 255);
        CHECKS.same("a 13", wide.at(0, 3), 13);
    }

    private static void isBadBehindTheLast() {
        MarkupTokens x = Markup.read(AnyTokens.TEXT);
        for (int i = 0; i < AnyTokens.COUNT; i++) {
            int length = x.token(i, 1);
            CHECKS.same("at(" + i + ", " + length + ")", x.at(i, length), BAD);
        }
    }

    private static void isBadWithoutSuchACharacter() {
        MarkupTokens x = Markup.read(AnyTokens.TEXT);
        for (int i = 0; i < AnyTokens.COUNT; i++) {
            for (int far : AnyTokens.FAR) {
                CHECKS.same("at(" + i + ", " + far + ")", x.at(i, far), BAD);
            }
        }
    }

    private static void isBadWithoutSuchAToken() {
        MarkupTokens x = Markup.read(AnyTokens.TEXT);
        CHECKS.same("at behind the last token", x.at(AnyTokens.COUNT, 0), BAD);
        for (int far : AnyTokens.FAR) {
            CHECKS.same("at(" + far + ", 0)", x.at(far, 0), BAD);
            CHECKS.same("at(" + far + ", " + far + ")", x.at(far, far), BAD);
        }
    }

    private static void isBadInAnEmptyOne() {
        MarkupTokens x = Markup.read("<!----><!doctype>a");
        CHECKS.same("at(0, 0) of an empty comment", x.at(0, 0), BAD);
        CHECKS.same("at(0, -1) of an empty comment", x.at(0, -1), BAD);
        CHECKS.same("at(1, 0) of a doctype without a name", x.at(1, 0), BAD);
        CHECKS.same("at(2, 0) behind them", x.at(2, 0), (int) 'a');
    }

    private static void isBadBeforeARun() {
        MarkupTokens x = new MarkupTokens();
        CHECKS.same("at(0, 0) of a new object", x.at(0, 0), BAD);
        x.feed('a', 1);
        CHECKS.same("at(0, 0) before run()", x.at(0, 0), BAD);
        x.run();
        CHECKS.same("at(0, 0)", x.at(0, 0), (int) 'a');
    }

    private static void isOfTheLatestRun() {
        MarkupTokens x = Markup.read("abc<def>");
        x.clear();
        Markup.feed(x, "gh");
        CHECKS.same("at(1, 2) until the next run()", x.at(1, 2), (int) 'f');
        x.run();
        CHECKS.same("at(0, 1)", x.at(0, 1), (int) 'h');
        CHECKS.same("at(0, 2)", x.at(0, 2), BAD);
        CHECKS.same("at(1, 0)", x.at(1, 0), BAD);
    }

    private static void tellsTheMostCharacters() {
        MarkupTokens x = Markup.read("a".repeat(399) + "b");
        CHECKS.same("at(0, 398)", x.at(0, 398), (int) 'a');
        CHECKS.same("at(0, 399)", x.at(0, 399), (int) 'b');
        CHECKS.same("at(0, 400)", x.at(0, 400), BAD);
        MarkupTokens name = Markup.read("<" + "a".repeat(397) + "b>");
        CHECKS.same("at(0, 397) of a name", name.at(0, 397), (int) 'b');
        CHECKS.same("at(0, 398) of a name", name.at(0, 398), BAD);
    }
}
