/** The ways from NAME to SELF, each at every character and at END. */
public final class TagWaysTest {
    private static final Checks CHECKS = new Checks();

    public static void main(String[] args) {
        name();
        before();
        attribute();
        attributeThatStoodBefore();
        after();
        value();
        quotedBy34();
        quotedBy39();
        unquoted();
        behind();
        self();
        endTagDone();
        CHECKS.end();
    }

    private static Step way(String before, String behind) {
        return new Step(CHECKS, before, behind);
    }

    private static void name() {
        way("<n", ">")
                .on(Step.BLANKS, "<n>", "")
                .on("/", "<n/>", "")
                .on(">", "<n> | \">\"", "")
                .on("\0", "<n[65533]>", "1@2")
                .end("", "6@2")
                .others("<n%l>", "");
    }

    private static void before() {
        way("<n ", ">")
                .on(Step.BLANKS, "<n>", "")
                .on("/", "<n/>", "")
                .on(">", "<n> | \">\"", "")
                .on("=", "<n ==''>", "7@3")
                .on("\0", "<n [65533]=''>", "1@3")
                .on(Step.QUOTES_AND_LESS, "<n %c=''>", "8@3")
                .end("", "6@3")
                .others("<n %l=''>", "");
    }

    private static void attribute() {
        way("<n a", ">")
                .on(Step.BLANKS, "<n a=''>", "")
                .on("/", "<n a=''/>", "")
                .on(">", "<n a=''> | \">\"", "")
                .on("=", "<n a=''>", "10@5")
                .on("\0", "<n a[65533]=''>", "1@4")
                .on(Step.QUOTES_AND_LESS, "<n a%c=''>", "8@4")
                .end("", "6@4")
                .others("<n a%l=''>", "");
    }

    /** Fault 9 is told before what comes when the name is left, whatever it is left by. */
    private static void attributeThatStoodBefore() {
        way("<n a A", ">")
                .on(Step.BLANKS, "<n a=''>", "9@6")
                .on("/", "<n a=''/>", "9@6")
                .on(">", "<n a=''> | \">\"", "9@6")
                .on("=", "<n a=''>", "9@6 10@7")
                .on("\0", "<n a='' a[65533]=''>", "1@6")
                .on(Step.QUOTES_AND_LESS, "<n a='' a%c=''>", "8@6")
                .end("", "9@6 6@6")
                .others("<n a='' a%l=''>", "");
        way("<n a=v a=w", " b=x>")
                .on(Step.BLANKS, "<n a='v' b='x'>", "9@8")
                .on(">", "<n a='v'> | \" b=x>\"", "9@8")
                .on("\0", "<n a='v' b='x'>", "9@8 1@10")
                .on("\"'<=`", "<n a='v' b='x'>", "9@8 11@10")
                .end("", "9@8 6@10")
                .others("<n a='v' b='x'>", "9@8");
    }

    private static void after() {
        way("<n a ", ">")
                .on(Step.BLANKS, "<n a=''>", "")
                .on("/", "<n a=''/>", "")
                .on("=", "<n a=''>", "10@6")
                .on(">", "<n a=''> | \">\"", "")
                .on("\0", "<n a='' [65533]=''>", "1@5")
                .on(Step.QUOTES_AND_LESS, "<n a='' %c=''>", "8@5")
                .on("aA", "<n a=''>", "9@6")
                .end("", "6@5")
                .others("<n a='' %l=''>", "");
    }

    private static void value() {
        way("<n a=", "b>")
                .on(Step.BLANKS, "<n a='b'>", "")
                .on("\"'", "", "6@8")
                .on(">", "<n a=''> | \"b>\"", "10@5")
                .on("\0", "<n a='[65533]b'>", "1@5")
                .on("<=`", "<n a='%cb'>", "11@5")
                .end("", "6@5")
                .others("<n a='%cb'>", "");
        way("<n a= ", ">")
                .on(Step.BLANKS, "<n a=''>", "10@7")
                .on("\"'", "", "6@8")
                .on(">", "<n a=''> | \">\"", "10@6")
                .on("\0", "<n a='[65533]'>", "1@6")
                .on("<=`", "<n a='%c'>", "11@6")
                .end("", "6@6")
                .others("<n a='%c'>", "");
    }

    private static void quotedBy34() {
        way("<n a=\"v", "w\">")
                .on("\"", "<n a='v' w\"=''>", "12@8 8@9")
                .on("\0", "<n a='v[65533]w'>", "1@7")
                .end("", "6@7")
                .others("<n a='v%cw'>", "");
    }

    private static void quotedBy39() {
        way("<n a='v", "w'>")
                .on("'", "<n a='v' w'=''>", "12@8 8@9")
                .on("\0", "<n a='v[65533]w'>", "1@7")
                .end("", "6@7")
                .others("<n a='v%cw'>", "");
    }

    private static void unquoted() {
        way("<n a=v", "w>")
                .on(Step.BLANKS, "<n a='v' w=''>", "")
                .on(">", "<n a='v'> | \"w>\"", "")
                .on("\0", "<n a='v[65533]w'>", "1@6")
                .on("\"'<=`", "<n a='v%cw'>", "11@6")
                .end("", "6@6")
                .others("<n a='v%cw'>", "");
    }

    private static void behind() {
        way("<n a='v'", ">")
                .on(Step.BLANKS, "<n a='v'>", "")
                .on("/", "<n a='v'/>", "")
                .on(">", "<n a='v'> | \">\"", "")
                .on("=", "<n a='v' ==''>", "12@8 7@8")
                .on("\0", "<n a='v' [65533]=''>", "12@8 1@8")
                .on(Step.QUOTES_AND_LESS, "<n a='v' %c=''>", "12@8 8@8")
                .on("aA", "<n a='v'>", "12@8 9@9")
                .end("", "6@8")
                .others("<n a='v' %l=''>", "12@8");
    }

    private static void self() {
        way("<n/", ">")
                .on(Step.BLANKS, "<n>", "13@3")
                .on("/", "<n/>", "13@3")
                .on(">", "<n/> | \">\"", "")
                .on("=", "<n ==''>", "13@3 7@3")
                .on("\0", "<n [65533]=''>", "13@3 1@3")
                .on(Step.QUOTES_AND_LESS, "<n %c=''>", "13@3 8@3")
                .end("", "6@3")
                .others("<n %l=''>", "13@3");
    }

    /** The faults 14 and 15 stand at the >, in this order, behind those of the ways. */
    private static void endTagDone() {
        way("</n", ">")
                .on(Step.BLANKS, "</n>", "")
                .on("/", "</n>", "15@4")
                .on(">", "</n> | \">\"", "")
                .on("\0", "</n[65533]>", "1@3")
                .end("", "6@3")
                .others("</n%l>", "");
        way("</n a", ">")
                .on(Step.BLANKS, "</n>", "14@6")
                .on("/", "</n>", "14@6 15@6")
                .on(">", "</n> | \">\"", "14@5")
                .on("=", "</n>", "10@6 14@6")
                .on("\0", "</n>", "1@5 14@6")
                .on(Step.QUOTES_AND_LESS, "</n>", "8@5 14@6")
                .end("", "6@5")
                .others("</n>", "14@6");
        CHECKS.cut("</n a a>", "</n>", "9@7 14@7");
        CHECKS.cut("</n/ >", "</n>", "13@4");
        CHECKS.cut("</n a=&#0>", "</n>", "25@9 28@9 14@9");
        CHECKS.cut("</n a='v'/>", "</n>", "14@10 15@10");
    }
}
