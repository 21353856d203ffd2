/** Promises 8 and 9: size and part. */
public final class AttributeTest {
    private static final Checks CHECKS = new Checks();
    private static final int BAD = MarkupTokens.BAD;

    public static void main(String[] args) {
        tellSizes();
        tellParts();
        areBadBehindTheLastAttribute();
        areBadForAnotherWhat();
        areBadWithoutSuchAToken();
        areBadWithoutSuchAnAttribute();
        areBadForOtherTokens();
        partIsBadBehindTheLast();
        partIsBadInAnEmptyValue();
        tellNothingOfWhatGoes();
        areBadBeforeARun();
        areOfTheLatestRun();
        tellTheMost();
        CHECKS.end();
    }

    private static void size(MarkupTokens x, int i, int a, int what, int due) {
        CHECKS.same("size(" + i + ", " + a + ", " + what + ")", x.size(i, a, what), due);
    }

    private static void part(MarkupTokens x, int i, int a, int what, int k, int due) {
        CHECKS.same("part(" + i + ", " + a + ", " + what + ", " + k + ")", x.part(i, a, what, k), due);
    }

    /** Both are BAD, whatever k is. */
    private static void bad(MarkupTokens x, int i, int a, int what) {
        size(x, i, a, what, BAD);
        for (int k : new int[] {-2, -1, 0, 1, Integer.MIN_VALUE, Integer.MAX_VALUE}) {
            part(x, i, a, what, k, BAD);
        }
    }

    private static void tellSizes() {
        MarkupTokens x = Markup.read(AnyTokens.TEXT);
        size(x, 1, 0, 0, 2);
        size(x, 1, 0, 1, 3);
        size(x, 1, 1, 0, 1);
        size(x, 1, 1, 1, 0);
        MarkupTokens y = Markup.read("<a bc><d e='&euro;' fgh=ij>");
        size(y, 0, 0, 0, 2);
        size(y, 1, 0, 0, 1);
        size(y, 1, 0, 1, 1);
        size(y, 1, 1, 0, 3);
        size(y, 1, 1, 1, 2);
    }

    private static void tellParts() {
        MarkupTokens x = Markup.read(AnyTokens.TEXT);
        part(x, 1, 0, 0, 0, 'c');
        part(x, 1, 0, 0, 1, 'd');
        part(x, 1, 0, 1, 0, 'e');
        part(x, 1, 0, 1, 1, 'f');
        part(x, 1, 0, 1, 2, 'g');
        part(x, 1, 1, 0, 0, 'h');
        MarkupTokens y = Markup.read("<a b\0='\0&#1114111;\u00ff&#13;'>");
        part(y, 0, 0, 0, 1, 65533);
        part(y, 0, 0, 1, 0, 65533);
        part(y, 0, 0, 1, 1, 1114111);
        part(y, 0, 0, 1, 2, 255);
        part(y, 0, 0, 1, 3, 13);
    }

    private static void areBadBehindTheLastAttribute() {
        MarkupTokens x = Markup.read(AnyTokens.TEXT);
        bad(x, 1, 2, 0);
        bad(x, 1, 2, 1);
        MarkupTokens y = Markup.read("<a><b c>");
        bad(y, 0, 0, 0);
        bad(y, 0, 1, 0);
        bad(y, 1, 1, 0);
        bad(y, 1, -1, 0);
    }

    private static void areBadForAnotherWhat() {
        MarkupTokens x = Markup.read(AnyTokens.TEXT);
        bad(x, 1, 0, 2);
        bad(x, 1, 0, 3);
        for (int far : AnyTokens.FAR) {
            bad(x, 1, 0, far);
        }
    }

    private static void areBadWithoutSuchAToken() {
        MarkupTokens x = Markup.read(AnyTokens.TEXT);
        bad(x, AnyTokens.COUNT, 0, 0);
        for (int far : AnyTokens.FAR) {
            bad(x, far, 0, 0);
            bad(x, far, 0, 1);
        }
    }

    private static void areBadWithoutSuchAnAttribute() {
        MarkupTokens x = Markup.read(AnyTokens.TEXT);
        for (int far : AnyTokens.FAR) {
            bad(x, 1, far, 0);
            bad(x, 1, far, 1);
        }
    }

    private static void areBadForOtherTokens() {
        MarkupTokens x = Markup.read(AnyTokens.TEXT);
        for (int i : new int[] {0, 2, 3, 4, 5}) {
            bad(x, i, 0, 0);
            bad(x, i, 0, 1);
            bad(x, i, -1, 0);
        }
    }

    private static void partIsBadBehindTheLast() {
        MarkupTokens x = Markup.read(AnyTokens.TEXT);
        part(x, 1, 0, 0, 2, BAD);
        part(x, 1, 0, 1, 3, BAD);
        part(x, 1, 1, 0, 1, BAD);
        for (int far : AnyTokens.FAR) {
            part(x, 1, 0, 0, far, BAD);
            part(x, 1, 0, 1, far, BAD);
        }
    }

    private static void partIsBadInAnEmptyValue() {
        MarkupTokens x = Markup.read("<a b c='' d=>");
        for (int a = 0; a < 3; a++) {
            size(x, 0, a, 1, 0);
            part(x, 0, a, 1, 0, BAD);
            part(x, 0, a, 1, -1, BAD);
        }
    }

    private static void tellNothingOfWhatGoes() {
        MarkupTokens x = Markup.read("<a b=1 b=23 c=4></a d=5>");
        size(x, 0, 0, 1, 1);
        part(x, 0, 0, 1, 0, '1');
        part(x, 0, 1, 0, 0, 'c');
        part(x, 0, 1, 1, 0, '4');
        bad(x, 0, 2, 0);
        bad(x, 1, 0, 0);
    }

    private static void areBadBeforeARun() {
        MarkupTokens x = new MarkupTokens();
        bad(x, 0, 0, 0);
        Markup.feed(x, "<a b=c>");
        bad(x, 0, 0, 0);
        x.run();
        size(x, 0, 0, 0, 1);
        part(x, 0, 0, 1, 0, 'c');
    }

    private static void areOfTheLatestRun() {
        MarkupTokens x = Markup.read("<a b=c d=e>");
        x.clear();
        Markup.feed(x, "<a fg>");
        size(x, 0, 1, 1, 1);
        part(x, 0, 1, 1, 0, 'e');
        x.run();
        size(x, 0, 0, 0, 2);
        size(x, 0, 0, 1, 0);
        part(x, 0, 0, 0, 1, 'g');
        bad(x, 0, 1, 0);
        bad(x, 0, 1, 1);
    }

    private static void tellTheMost() {
        MarkupTokens name = Markup.read("<n " + "a".repeat(395) + "b>");
        size(name, 0, 0, 0, 396);
        part(name, 0, 0, 0, 395, 'b');
        part(name, 0, 0, 0, 396, BAD);
        MarkupTokens value = Markup.read("<n a=" + "v".repeat(393) + "w>");
        size(value, 0, 0, 1, 394);
        part(value, 0, 0, 1, 393, 'w');
        part(value, 0, 0, 1, 394, BAD);
    }
}
