/** Promises 6 to 11: token, at, size, part, faults and fault, with wrong arguments too. */
public final class AnswerTest {
    private static final Checks CHECKS = new Checks();
    private static final int BAD = MarkupTokens.BAD;
    private static final int[] FAR = {-1, 100, 399, 400, 401, Integer.MIN_VALUE, Integer.MAX_VALUE};

    public static void main(String[] args) {
        MarkupTokens x = Markup.read("t&euro;<ab cd=efg h/><!--xyz--></s i/><!doctype D e><!doctype>");
        tokens(x);
        characters(x);
        sizes(x);
        parts(x);
        faults(x);
        CHECKS.end();
    }

    private static void token(MarkupTokens x, int i, int... due) {
        for (int what = 0; what < 4; what++) {
            CHECKS.same("token(" + i + ", " + what + ")", x.token(i, what), due[what]);
        }
    }

    private static void tokens(MarkupTokens x) {
        token(x, 0, MarkupTokens.TEXT, 2, 0, 0);
        token(x, 1, MarkupTokens.START, 2, 1, 2);
        token(x, 2, MarkupTokens.COMMENT, 3, 0, 0);
        token(x, 3, MarkupTokens.STOP, 1, 0, 0);
        token(x, 4, MarkupTokens.DOCTYPE, 1, 1, 0);
        token(x, 5, MarkupTokens.DOCTYPE, 0, 1, 0);
        token(x, 6, BAD, BAD, BAD, BAD);
        for (int far : FAR) {
            token(x, far, BAD, BAD, BAD, BAD);
            CHECKS.same("token(0, " + far + ")", x.token(0, far), BAD);
        }
        CHECKS.same("token(0, 4)", x.token(0, 4), BAD);
    }

    private static void characters(MarkupTokens x) {
        CHECKS.same("at(0, 0)", x.at(0, 0), (int) 't');
        CHECKS.same("at(0, 1)", x.at(0, 1), 8364);
        CHECKS.same("at(0, 2)", x.at(0, 2), BAD);
        CHECKS.same("at(1, 0)", x.at(1, 0), (int) 'a');
        CHECKS.same("at(1, 1)", x.at(1, 1), (int) 'b');
        CHECKS.same("at(1, 2)", x.at(1, 2), BAD);
        CHECKS.same("at(2, 2)", x.at(2, 2), (int) 'z');
        CHECKS.same("at(2, 3)", x.at(2, 3), BAD);
        CHECKS.same("at(3, 0)", x.at(3, 0), (int) 's');
        CHECKS.same("at(3, 1)", x.at(3, 1), BAD);
        CHECKS.same("at(4, 0)", x.at(4, 0), (int) 'd');
        CHECKS.same("at(5, 0)", x.at(5, 0), BAD);
        CHECKS.same("at(6, 0)", x.at(6, 0), BAD);
        for (int far : FAR) {
            CHECKS.same("at(0, " + far + ")", x.at(0, far), BAD);
            CHECKS.same("at(" + far + ", 0)", x.at(far, 0), BAD);
        }
    }

    private static void sizes(MarkupTokens x) {
        CHECKS.same("size(1, 0, 0)", x.size(1, 0, 0), 2);
        CHECKS.same("size(1, 0, 1)", x.size(1, 0, 1), 3);
        CHECKS.same("size(1, 1, 0)", x.size(1, 1, 0), 1);
        CHECKS.same("size(1, 1, 1)", x.size(1, 1, 1), 0);
        CHECKS.same("size(1, 2, 0)", x.size(1, 2, 0), BAD);
        CHECKS.same("size(1, 0, 2)", x.size(1, 0, 2), BAD);
        for (int i : new int[] {0, 2, 3, 4, 5, 6}) {
            CHECKS.same("size(" + i + ", 0, 0)", x.size(i, 0, 0), BAD);
        }
        for (int far : FAR) {
            CHECKS.same("size(" + far + ", 0, 0)", x.size(far, 0, 0), BAD);
            CHECKS.same("size(1, " + far + ", 0)", x.size(1, far, 0), BAD);
            CHECKS.same("size(1, 0, " + far + ")", x.size(1, 0, far), BAD);
        }
    }

    private static void parts(MarkupTokens x) {
        CHECKS.same("part(1, 0, 0, 0)", x.part(1, 0, 0, 0), (int) 'c');
        CHECKS.same("part(1, 0, 0, 1)", x.part(1, 0, 0, 1), (int) 'd');
        CHECKS.same("part(1, 0, 0, 2)", x.part(1, 0, 0, 2), BAD);
        CHECKS.same("part(1, 0, 1, 0)", x.part(1, 0, 1, 0), (int) 'e');
        CHECKS.same("part(1, 0, 1, 2)", x.part(1, 0, 1, 2), (int) 'g');
        CHECKS.same("part(1, 0, 1, 3)", x.part(1, 0, 1, 3), BAD);
        CHECKS.same("part(1, 1, 0, 0)", x.part(1, 1, 0, 0), (int) 'h');
        CHECKS.same("part(1, 1, 1, 0)", x.part(1, 1, 1, 0), BAD);
        CHECKS.same("part(1, 2, 0, 0)", x.part(1, 2, 0, 0), BAD);
        CHECKS.same("part(1, 0, 2, 0)", x.part(1, 0, 2, 0), BAD);
        CHECKS.same("part(3, 0, 0, 0)", x.part(3, 0, 0, 0), BAD);
        for (int far : FAR) {
            CHECKS.same("part(" + far + ", 0, 0, 0)", x.part(far, 0, 0, 0), BAD);
            CHECKS.same("part(1, " + far + ", 0, 0)", x.part(1, far, 0, 0), BAD);
            CHECKS.same("part(1, 0, " + far + ", 0)", x.part(1, 0, far, 0), BAD);
            CHECKS.same("part(1, 0, 0, " + far + ")", x.part(1, 0, 0, far), BAD);
        }
    }

    private static void faults(MarkupTokens x) {
        CHECKS.same("faults()", x.faults(), 4);
        CHECKS.same("fault(0, 0)", x.fault(0, 0), 14);
        CHECKS.same("fault(0, 1)", x.fault(0, 1), 37);
        CHECKS.same("fault(1, 0)", x.fault(1, 0), 15);
        CHECKS.same("fault(1, 1)", x.fault(1, 1), 37);
        CHECKS.same("fault(2, 0)", x.fault(2, 0), 24);
        CHECKS.same("fault(2, 1)", x.fault(2, 1), 50);
        CHECKS.same("fault(3, 0)", x.fault(3, 0), 22);
        CHECKS.same("fault(3, 1)", x.fault(3, 1), 61);
        CHECKS.same("fault(4, 0)", x.fault(4, 0), BAD);
        CHECKS.same("fault(0, 2)", x.fault(0, 2), BAD);
        for (int far : FAR) {
            CHECKS.same("fault(" + far + ", 0)", x.fault(far, 0), BAD);
            CHECKS.same("fault(0, " + far + ")", x.fault(0, far), BAD);
        }
    }
}
