/** The ways from DOCTYPE to DOCTYPEODD, each at every character and at END, from wherever they are reached. */
public final class DoctypeWaysTest {
    private static final Checks CHECKS = new Checks();

    public static void main(String[] args) {
        doctype();
        doctypeBefore();
        doctypeName();
        doctypeAfter();
        doctypeOdd();
        CHECKS.end();
    }

    private static Step way(String before, String behind) {
        return new Step(CHECKS, before, behind);
    }

    private static void doctype() {
        way("<!doctype", ">")
                .on(Step.BLANKS, "!?", "22@10")
                .on(">", "!? | \">\"", "22@9")
                .on("\0", "![65533]", "21@9 1@9")
                .end("!?", "23@9")
                .others("!%l", "21@9");
    }

    private static void doctypeBefore() {
        doctypeBefore("<!doctype ");
        doctypeBefore("<!doctype  ");
        doctypeBefore("<!doctype\n\t\f ");
    }

    private static void doctypeBefore(String before) {
        int c = before.length();
        way(before, ">")
                .on(Step.BLANKS, "!?", "22@" + (c + 1))
                .on(">", "!? | \">\"", "22@" + c)
                .on("\0", "![65533]", "1@" + c)
                .end("!?", "23@" + c)
                .others("!%l", "");
    }

    private static void doctypeName() {
        doctypeName("<!doctype d", "d", "");
        doctypeName("<!doctype  De", "de", "");
        doctypeName("<!doctype\"", "\"", "21@9 ");
        doctypeName("<!doctype d\0", "d[65533]", "1@11 ");
    }

    private static void doctypeName(String before, String name, String told) {
        int c = before.length();
        way(before, ">")
                .on(Step.BLANKS, "!" + name, told.trim())
                .on(">", "!" + name + " | \">\"", told.trim())
                .on("\0", "!" + name + "[65533]", told + "1@" + c)
                .end("!" + name + "?", told + "23@" + c)
                .others("!" + name + "%l", told.trim());
    }

    private static void doctypeAfter() {
        doctypeAfter("<!doctype d ");
        doctypeAfter("<!doctype d  ");
        doctypeAfter("<!doctype d\n\t\f ");
    }

    private static void doctypeAfter(String before) {
        int c = before.length();
        way(before, ">")
                .on(Step.BLANKS, "!d", "")
                .on(">", "!d | \">\"", "")
                .on("\0", "!d?", "24@" + c + " 1@" + c)
                .end("!d?", "23@" + c)
                .others("!d?", "24@" + c);
    }

    private static void doctypeOdd() {
        doctypeOdd("<!doctype d o", "24@12");
        doctypeOdd("<!doctype d o \"", "24@12");
        doctypeOdd("<!doctype d \0", "24@12 1@12");
        doctypeOdd("<!doctype d o\0", "24@12 1@13");
    }

    private static void doctypeOdd(String before, String told) {
        way(before, ">")
                .on(">", "!d? | \">\"", told)
                .on("\0", "!d?", told + " 1@" + before.length())
                .end("!d?", told)
                .others("!d?", told);
    }
}
