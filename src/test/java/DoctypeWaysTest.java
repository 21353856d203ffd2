/** The ways from DOCTYPE to DOCTYPEODD, each at every character and at END. */
public final class DoctypeWaysTest {
    private static final Checks CHECKS = new Checks();

    public static void main(String[] args) {
        doctype();
        doctypeBefore();
        doctypeName();
        doctypeAfter();
        doctypeOdd();
        CHECKS.end();
    }

    private static Step way(String before, String behind) {
        return new Step(CHECKS, before, behind);
    }

    private static void doctype() {
        way("<!doctype", ">")
                .on(Step.BLANKS, "!?", "22@10")
                .on(">", "!? | \">\"", "22@9")
                .on("\0", "![65533]", "21@9 1@9")
                .end("!?", "23@9")
                .others("!%l", "21@9");
    }

    private static void doctypeBefore() {
        way("<!doctype ", ">")
                .on(Step.BLANKS, "!?", "22@11")
                .on(">", "!? | \">\"", "22@10")
                .on("\0", "![65533]", "1@10")
                .end("!?", "23@10")
                .others("!%l", "");
    }

    private static void doctypeName() {
        way("<!doctype d", ">")
                .on(Step.BLANKS, "!d", "")
                .on(">", "!d | \">\"", "")
                .on("\0", "!d[65533]", "1@11")
                .end("!d?", "23@11")
                .others("!d%l", "");
    }

    private static void doctypeAfter() {
        way("<!doctype d ", ">")
                .on(Step.BLANKS, "!d", "")
                .on(">", "!d | \">\"", "")
                .on("\0", "!d?", "24@12 1@12")
                .end("!d?", "23@12")
                .others("!d?", "24@12");
    }

    private static void doctypeOdd() {
        way("<!doctype d o", ">")
                .on(">", "!d? | \">\"", "24@12")
                .on("\0", "!d?", "24@12 1@13")
                .end("!d?", "24@12")
                .others("!d?", "24@12");
    }
}
