/** Promises 10 and 11: faults and fault. */
public final class FaultTest {
    private static final Checks CHECKS = new Checks();
    private static final int BAD = MarkupTokens.BAD;

    public static void main(String[] args) {
        tellCodesAndPlaces();
        tellThemInTheirOrder();
        isBadBehindTheLast();
        isBadWithoutSuchAFault();
        isBadForAnotherWhat();
        areNoneBeforeARun();
        areOfTheLatestRun();
        tellTheMostAtOnePlace();
        tellTheMost();
        CHECKS.end();
    }

    private static void tellCodesAndPlaces() {
        MarkupTokens x = Markup.read(AnyTokens.TEXT);
        CHECKS.same("faults()", x.faults(), 4);
        int[] due = {14, 37, 15, 37, 24, 50, 22, 61};
        for (int k = 0; k < 4; k++) {
            CHECKS.same("fault(" + k + ", 0)", x.fault(k, 0), due[2 * k]);
            CHECKS.same("fault(" + k + ", 1)", x.fault(k, 1), due[2 * k + 1]);
        }
    }

    /** Also where they stand at one place. */
    private static void tellThemInTheirOrder() {
        CHECKS.cut("<n a a", "", "9@6 6@6");
        CHECKS.cut("</n a=b a/>", "</n>", "9@9 14@10 15@10");
        CHECKS.cut("<!--<!--\0-->", "{<!--[65533]}", "19@8 1@8");
        CHECKS.cut("</\0", "{[65533]}", "4@2 1@2");
        CHECKS.cut("<n a='b'=", "", "12@8 7@8 6@9");
    }

    private static void isBadBehindTheLast() {
        MarkupTokens x = Markup.read(AnyTokens.TEXT);
        CHECKS.same("fault(4, 0)", x.fault(4, 0), BAD);
        CHECKS.same("fault(4, 1)", x.fault(4, 1), BAD);
        MarkupTokens none = Markup.read("a");
        CHECKS.same("fault(0, 0) of none", none.fault(0, 0), BAD);
        CHECKS.same("fault(0, 1) of none", none.fault(0, 1), BAD);
    }

    private static void isBadWithoutSuchAFault() {
        MarkupTokens x = Markup.read(AnyTokens.TEXT);
        for (int far : AnyTokens.FAR) {
            CHECKS.same("fault(" + far + ", 0)", x.fault(far, 0), BAD);
            CHECKS.same("fault(" + far + ", 1)", x.fault(far, 1), BAD);
            CHECKS.same("fault(" + far + ", " + far + ")", x.fault(far, far), BAD);
        }
    }

    private static void isBadForAnotherWhat() {
        MarkupTokens x = Markup.read(AnyTokens.TEXT);
        for (int k = 0; k < 4; k++) {
            CHECKS.same("fault(" + k + ", 2)", x.fault(k, 2), BAD);
            for (int far : AnyTokens.FAR) {
                CHECKS.same("fault(" + k + ", " + far + ")", x.fault(k, far), BAD);
            }
        }
    }

    private static void areNoneBeforeARun() {
        MarkupTokens x = new MarkupTokens();
        CHECKS.same("faults() of a new object", x.faults(), 0);
        CHECKS.same("fault(0, 0) of a new object", x.fault(0, 0), BAD);
        x.feed(0, 1);
        CHECKS.same("faults() before run()", x.faults(), 0);
        x.run();
        CHECKS.same("faults()", x.faults(), 1);
    }

    private static void areOfTheLatestRun() {
        MarkupTokens x = Markup.read("\0\0\0");
        x.clear();
        Markup.feed(x, "a<");
        CHECKS.same("faults until the next run()", Markup.faults(x), "1@0 1@1 1@2");
        x.run();
        CHECKS.same("faults", Markup.faults(x), "3@2");
        CHECKS.same("fault(1, 0)", x.fault(1, 0), BAD);
        x.run();
        CHECKS.same("faults of the same text again", Markup.faults(x), "3@2");
        x.clear();
        x.run();
        CHECKS.same("faults() of an empty text", x.faults(), 0);
        CHECKS.same("fault(0, 0) of an empty text", x.fault(0, 0), BAD);
    }

    private static void tellTheMostAtOnePlace() {
        CHECKS.cut("<n a=&#0\">", "<n a='[65533]\"'>", "25@8 28@8 11@8");
        CHECKS.cut("<n a=&#0\0>", "<n a='[65533][65533]'>", "25@8 28@8 1@8");
        CHECKS.cut("<n a=&#0", "", "25@8 28@8 6@8");
        CHECKS.cut("</n a=&#0>", "</n>", "25@9 28@9 14@9");
        CHECKS.cut("&#0\0", "\"[65533][0]\"", "25@3 28@3 1@3");
    }

    private static void tellTheMost() {
        MarkupTokens zeros = Markup.read("\0".repeat(400));
        CHECKS.same("faults() of 0s", zeros.faults(), 400);
        CHECKS.same("the last place of 0s", zeros.fault(399, 1), 399);
        CHECKS.same("fault(400, 0) of 0s", zeros.fault(400, 0), BAD);
        MarkupTokens names = Markup.read("<a" + "/\"".repeat(199));
        // Each / but the first leaves a name, and all names but the first stood before.
        CHECKS.same("faults() of names", names.faults(), 199 * 2 + 198 + 1);
        CHECKS.same("the last fault of names", names.fault(596, 0), 6);
        CHECKS.same("the last place of names", names.fault(596, 1), 400);
        CHECKS.same("fault(597, 0) of names", names.fault(597, 0), BAD);
        MarkupTokens numbers = Markup.read("<n a=" + "&#0\"".repeat(98) + ">");
        CHECKS.same("faults() of numbers", numbers.faults(), 98 * 3);
        CHECKS.same("the last fault of numbers", numbers.fault(293, 0), 11);
    }
}
