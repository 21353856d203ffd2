/** Promise 6: token. */
public final class TokenTest {
    private static final Checks CHECKS = new Checks();
    private static final int BAD = MarkupTokens.BAD;

    public static void main(String[] args) {
        tellsEachKind();
        tellsEmptyOnes();
        tellsTheMark();
        countsAttributesThatStay();
        isBadWithoutSuchAToken();
        isBadForAnotherWhat();
        isBadBeforeARun();
        isOfTheLatestRun();
        tellsTheMostTokens();
        CHECKS.end();
    }

    private static void token(MarkupTokens x, int i, int... due) {
        for (int what = 0; what < 4; what++) {
            CHECKS.same("token(" + i + ", " + what + ")", x.token(i, what), due[what]);
        }
    }

    private static void tellsEachKind() {
        MarkupTokens x = Markup.read(AnyTokens.TEXT);
        token(x, 0, MarkupTokens.TEXT, 2, 0, 0);
        token(x, 1, MarkupTokens.START, 2, 1, 2);
        token(x, 2, MarkupTokens.COMMENT, 3, 0, 0);
        token(x, 3, MarkupTokens.STOP, 1, 0, 0);
        token(x, 4, MarkupTokens.DOCTYPE, 1, 1, 0);
        token(x, 5, MarkupTokens.DOCTYPE, 0, 1, 0);
    }

    private static void tellsEmptyOnes() {
        MarkupTokens x = Markup.read("<!----><!><!doctype>");
        token(x, 0, MarkupTokens.COMMENT, 0, 0, 0);
        token(x, 1, MarkupTokens.COMMENT, 0, 0, 0);
        token(x, 2, MarkupTokens.DOCTYPE, 0, 1, 0);
    }

    private static void tellsTheMark() {
        MarkupTokens x = Markup.read("<a><a/></a/><!doctype a><!doctype a b>");
        int[] due = {0, 1, 0, 0, 1};
        for (int i = 0; i < due.length; i++) {
            CHECKS.same("token(" + i + ", 2)", x.token(i, 2), due[i]);
        }
    }

    private static void countsAttributesThatStay() {
        MarkupTokens x = Markup.read("<a><a b><a b b><a b c b=d c><a/b/c></a b c>");
        int[] due = {0, 1, 1, 2, 2, 0};
        for (int i = 0; i < due.length; i++) {
            CHECKS.same("token(" + i + ", 3)", x.token(i, 3), due[i]);
        }
    }

    private static void isBadWithoutSuchAToken() {
        MarkupTokens x = Markup.read(AnyTokens.TEXT);
        token(x, AnyTokens.COUNT, BAD, BAD, BAD, BAD);
        for (int far : AnyTokens.FAR) {
            token(x, far, BAD, BAD, BAD, BAD);
            CHECKS.same("token(" + far + ", " + far + ")", x.token(far, far), BAD);
        }
    }

    private static void isBadForAnotherWhat() {
        MarkupTokens x = Markup.read(AnyTokens.TEXT);
        for (int i = 0; i < AnyTokens.COUNT; i++) {
            CHECKS.same("token(" + i + ", 4)", x.token(i, 4), BAD);
            for (int far : AnyTokens.FAR) {
                CHECKS.same("token(" + i + ", " + far + ")", x.token(i, far), BAD);
            }
        }
    }

    private static void isBadBeforeARun() {
        MarkupTokens x = new MarkupTokens();
        token(x, 0, BAD, BAD, BAD, BAD);
        x.feed('a', 1);
        token(x, 0, BAD, BAD, BAD, BAD);
        x.run();
        token(x, 0, MarkupTokens.TEXT, 1, 0, 0);
    }

    private static void isOfTheLatestRun() {
        MarkupTokens x = Markup.read("<a b/><c d/>");
        x.clear();
        token(x, 1, MarkupTokens.START, 1, 1, 1);
        Markup.feed(x, "efg");
        token(x, 1, MarkupTokens.START, 1, 1, 1);
        x.run();
        token(x, 0, MarkupTokens.TEXT, 3, 0, 0);
        token(x, 1, BAD, BAD, BAD, BAD);
        x.clear();
        x.run();
        token(x, 0, BAD, BAD, BAD, BAD);
    }

    private static void tellsTheMostTokens() {
        MarkupTokens x = Markup.read("a<!>".repeat(100));
        token(x, 198, MarkupTokens.TEXT, 1, 0, 0);
        token(x, 199, MarkupTokens.COMMENT, 0, 0, 0);
        token(x, 200, BAD, BAD, BAD, BAD);
        MarkupTokens one = Markup.read("a".repeat(400));
        token(one, 0, MarkupTokens.TEXT, 400, 0, 0);
        token(one, 1, BAD, BAD, BAD, BAD);
    }
}
