/** The ways from NAME to SELF, each at every character and at END, from wherever they are reached. */
public final class TagWaysTest {
    private static final Checks CHECKS = new Checks();

    public static void main(String[] args) {
        name();
        before();
        attribute();
        attributeThatStoodBefore();
        valueThatIsLost();
        after();
        value();
        quoted();
        unquoted();
        behind();
        self();
        endTagDone();
        CHECKS.end();
    }

    private static Step way(String before, String behind) {
        return new Step(CHECKS, before, behind);
    }

    private static void name() {
        name("<n", "<n", "/>", "");
        name("<N", "<n", "/>", "");
        name("<nm", "<nm", "/>", "");
        name("<n=\"'<&", "<n=\"'<&", "/>", "");
        name("</n", "</n", ">", "15@4");
    }

    private static void name(String before, String tag, String closed, String closedFault) {
        int c = before.length();
        way(before, ">")
                .on(Step.BLANKS, tag + ">", "")
                .on("/", tag + closed, closedFault)
                .on(">", tag + "> | \">\"", "")
                .on("\0", tag + "[65533]>", "1@" + c)
                .end("", "6@" + c)
                .others(tag + "%l>", "");
    }

    private static void before() {
        before("<n ", "<n", "");
        before("<n  ", "<n", "");
        before("<n\n\t\f ", "<n", "");
        before("<n/ ", "<n", "13@3 ");
        before("<n aa=v ", "<n aa='v'", "");
        before("<n aa='v' ", "<n aa='v'", "");
        before("<n aa/ ", "<n aa=''", "13@6 ");
    }

    private static void before(String before, String tag, String told) {
        int c = before.length();
        way(before, ">")
                .on(Step.BLANKS, tag + ">", told.trim())
                .on("/", tag + "/>", told.trim())
                .on(">", tag + "> | \">\"", told.trim())
                .on("=", tag + " ==''>", told + "7@" + c)
                .on("\0", tag + " [65533]=''>", told + "1@" + c)
                .on(Step.QUOTES_AND_LESS, tag + " %c=''>", told + "8@" + c)
                .end("", told + "6@" + c)
                .others(tag + " %l=''>", told.trim());
    }

    private static void attribute() {
        attribute("<n a", "<n a", "");
        attribute("<n A", "<n a", "");
        attribute("<n abc", "<n abc", "");
        attribute("<n =", "<n =", "7@3 ");
        attribute("<n a\"", "<n a\"", "8@4 ");
        attribute("<n a\0", "<n a[65533]", "1@4 ");
        attribute("<n b a", "<n b='' a", "");
        attribute("<n b='' a", "<n b='' a", "");
    }

    private static void attribute(String before, String tag, String told) {
        int c = before.length();
        way(before, ">")
                .on(Step.BLANKS, tag + "=''>", told.trim())
                .on("/", tag + "=''/>", told.trim())
                .on(">", tag + "=''> | \">\"", told.trim())
                .on("=", tag + "=''>", told + "10@" + (c + 1))
                .on("\0", tag + "[65533]=''>", told + "1@" + c)
                .on(Step.QUOTES_AND_LESS, tag + "%c=''>", told + "8@" + c)
                .end("", told + "6@" + c)
                .others(tag + "%l=''>", told.trim());
    }

    private static void attributeThatStoodBefore() {
        attributeThatStoodBefore("<n a a", "<n a=''", "a");
        attributeThatStoodBefore("<n a A", "<n a=''", "a");
        attributeThatStoodBefore("<n abc abC", "<n abc=''", "abc");
        attributeThatStoodBefore("<n abc=v a abc", "<n abc='v' a=''", "abc");
        attributeThatStoodBefore("<n b='' abc=v c='' abc", "<n b='' abc='v' c=''", "abc");
        CHECKS.cut("<n abc abd aac bbc ab bc abcd abc>",
                "<n abc='' abd='' aac='' bbc='' ab='' bc='' abcd=''>", "9@33");
        CHECKS.cut("<n ab=1 ba=2 ab=3 ba=4>", "<n ab='1' ba='2'>", "9@15 9@20");
        CHECKS.cut("<a b><a b>", "<a b=''> | <a b=''>", "");
    }

    /** Fault 9 is told before what comes when the name is left, whatever it is left by. */
    private static void attributeThatStoodBefore(String before, String tag, String name) {
        int c = before.length();
        way(before, ">")
                .on(Step.BLANKS, tag + ">", "9@" + c)
                .on("/", tag + "/>", "9@" + c)
                .on(">", tag + "> | \">\"", "9@" + c)
                .on("=", tag + ">", "9@" + c + " 10@" + (c + 1))
                .on("\0", tag + " " + name + "[65533]=''>", "1@" + c)
                .on(Step.QUOTES_AND_LESS, tag + " " + name + "%c=''>", "8@" + c)
                .end("", "9@" + c + " 6@" + c)
                .others(tag + " " + name + "%l=''>", "");
    }

    private static void valueThatIsLost() {
        way("<n a=v a=w", " b=x>")
                .on(Step.BLANKS, "<n a='v' b='x'>", "9@8")
                .on(">", "<n a='v'> | \" b=x>\"", "9@8")
                .on("\0", "<n a='v' b='x'>", "9@8 1@10")
                .on("\"'<=`", "<n a='v' b='x'>", "9@8 11@10")
                .end("", "9@8 6@10")
                .others("<n a='v' b='x'>", "9@8");
        CHECKS.cut("<n a=v a='w&#0;' b=x>", "<n a='v' b='x'>", "9@8 28@15");
        CHECKS.cut("<n a=v a=w>", "<n a='v'>", "9@8");
        CHECKS.cut("<n a=v a  =  w/>", "<n a='v'>", "9@8");
    }

    private static void after() {
        after("<n a ", "<n a=''");
        after("<n a  ", "<n a=''");
        after("<n b a\n\t\f ", "<n b='' a=''");
        after("<n b='' a ", "<n b='' a=''");
    }

    private static void after(String before, String tag) {
        int c = before.length();
        Step way = way(before, ">")
                .on(Step.BLANKS, tag + ">", "")
                .on("/", tag + "/>", "")
                .on("=", tag + ">", "10@" + (c + 1))
                .on(">", tag + "> | \">\"", "")
                .on("\0", tag + " [65533]=''>", "1@" + c)
                .on(Step.QUOTES_AND_LESS, tag + " %c=''>", "8@" + c)
                .on("aA", tag + ">", "9@" + (c + 1))
                .end("", "6@" + c);
        if (before.contains("b")) {
            way.on("bB", tag + ">", "9@" + (c + 1));
        }
        way.others(tag + " %l=''>", "");
    }

    private static void value() {
        value("<n a=");
        value("<n a =");
        value("<n a= ");
        value("<n a=\n\t\f ");
        value("<n a \r = ");
    }

    private static void value(String before) {
        int c = before.length();
        way(before, "b>")
                .on(Step.BLANKS, "<n a='b'>", "")
                .on("\"'", "", "6@" + (c + 3))
                .on(">", "<n a=''> | \"b>\"", "10@" + c)
                .on("\0", "<n a='[65533]b'>", "1@" + c)
                .on("<=`", "<n a='%cb'>", "11@" + c)
                .end("", "6@" + c)
                .others("<n a='%cb'>", "");
    }

    private static void quoted() {
        quoted("<n a=\"", "\"", "");
        quoted("<n a='", "'", "");
        quoted("<n a=\"v", "\"", "v");
        quoted("<n a='v", "'", "v");
        quoted("<n a =  \"'", "\"", "'");
        quoted("<n a =  '\"", "'", "\"");
        quoted("<n a=\"&amp;", "\"", "&");
        quoted("<n a='&#65;", "'", "A");
        quoted("<n a='&zz.", "'", "&zz.");
    }

    private static void quoted(String before, String quote, String value) {
        int c = before.length();
        way(before, "w" + quote + ">")
                .on(quote, "<n a='" + value + "' w" + quote + "=''>", "12@" + (c + 1) + " 8@" + (c + 2))
                .on("\0", "<n a='" + value + "[65533]w'>", "1@" + c)
                .end("", "6@" + c)
                .others("<n a='" + value + "%cw'>", "");
    }

    private static void unquoted() {
        unquoted("<n a=v", "v");
        unquoted("<n a=V/", "V/");
        unquoted("<n a = v", "v");
        unquoted("<n a=&amp;", "&");
        unquoted("<n a=&#65;", "A");
        unquoted("<n a=v&zz.", "v&zz.");
    }

    private static void unquoted(String before, String value) {
        int c = before.length();
        way(before, "w>")
                .on(Step.BLANKS, "<n a='" + value + "' w=''>", "")
                .on(">", "<n a='" + value + "'> | \"w>\"", "")
                .on("\0", "<n a='" + value + "[65533]w'>", "1@" + c)
                .on("\"'<=`", "<n a='" + value + "%cw'>", "11@" + c)
                .end("", "6@" + c)
                .others("<n a='" + value + "%cw'>", "");
    }

    private static void behind() {
        behind("<n a='v'", "<n a='v'");
        behind("<n a=\"v\"", "<n a='v'");
        behind("<n a=''", "<n a=''");
    }

    private static void behind(String before, String tag) {
        int c = before.length();
        way(before, ">")
                .on(Step.BLANKS, tag + ">", "")
                .on("/", tag + "/>", "")
                .on(">", tag + "> | \">\"", "")
                .on("=", tag + " ==''>", "12@" + c + " 7@" + c)
                .on("\0", tag + " [65533]=''>", "12@" + c + " 1@" + c)
                .on(Step.QUOTES_AND_LESS, tag + " %c=''>", "12@" + c + " 8@" + c)
                .on("aA", tag + ">", "12@" + c + " 9@" + (c + 1))
                .end("", "6@" + c)
                .others(tag + " %l=''>", "12@" + c);
    }

    private static void self() {
        self("<n/", "<n", "");
        self("<n /", "<n", "");
        self("<n//", "<n", "13@3 ");
        self("<n aa/", "<n aa=''", "");
        self("<n aa /", "<n aa=''", "");
        self("<n aa='v'/", "<n aa='v'", "");
        self("<n aa=v /", "<n aa='v'", "");
    }

    private static void self(String before, String tag, String told) {
        int c = before.length();
        way(before, ">")
                .on(Step.BLANKS, tag + ">", told + "13@" + c)
                .on("/", tag + "/>", told + "13@" + c)
                .on(">", tag + "/> | \">\"", told.trim())
                .on("=", tag + " ==''>", told + "13@" + c + " 7@" + c)
                .on("\0", tag + " [65533]=''>", told + "13@" + c + " 1@" + c)
                .on(Step.QUOTES_AND_LESS, tag + " %c=''>", told + "13@" + c + " 8@" + c)
                .end("", told + "6@" + c)
                .others(tag + " %l=''>", told + "13@" + c);
    }

    /** The faults 14 and 15 stand at the >, in this order, behind those of the ways. */
    private static void endTagDone() {
        way("</n a", ">")
                .on(Step.BLANKS, "</n>", "14@6")
                .on("/", "</n>", "14@6 15@6")
                .on(">", "</n> | \">\"", "14@5")
                .on("=", "</n>", "10@6 14@6")
                .on("\0", "</n>", "1@5 14@6")
                .on(Step.QUOTES_AND_LESS, "</n>", "8@5 14@6")
                .end("", "6@5")
                .others("</n>", "14@6");
        CHECKS.cut("</n a a>", "</n>", "9@7 14@7");
        CHECKS.cut("</n/>", "</n>", "15@4");
        CHECKS.cut("</n/ >", "</n>", "13@4");
        CHECKS.cut("</n a=&#0>", "</n>", "25@9 28@9 14@9");
        CHECKS.cut("</n a='v'/>", "</n>", "14@10 15@10");
        CHECKS.cut("</n a><n b>", "</n> | <n b=''>", "14@5");
    }
}
