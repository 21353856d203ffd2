/** The ways DATA, TAG, ENDTAG, MARK and BOGUS, each at every character and at END, from wherever they are reached. */
public final class DataWaysTest {
    private static final Checks CHECKS = new Checks();

    public static void main(String[] args) {
        data();
        dataBehindTokens();
        tag();
        endTag();
        mark();
        markOfDoctypes();
        markCutShort();
        bogus();
        CHECKS.end();
    }

    private static Step way(String before, String behind) {
        return new Step(CHECKS, before, behind);
    }

    private static void data() {
        data("", "", "\"", "");
        data("x", "\"x\"", "\"x", "");
        data("\0", "\"[0]\"", "\"[0]", "1@0 ");
        data("& ", "\"& \"", "\"& ", "");
        data("&zz.", "\"&zz.\"", "\"&zz.", "");
        data("&amp;", "\"&\"", "\"&", "");
        data("&#65;", "\"A\"", "\"A", "");
        data("<1", "\"<1\"", "\"<1", "4@1 ");
        data("</>", "", "\"", "5@2 ");
        data("x</>", "\"x\"", "\"x", "5@3 ");
    }

    /** Whatever ends a token, DATA comes next. */
    private static void dataBehindTokens() {
        dataBehind("<n>", "<n>", "");
        dataBehind("<n/>", "<n/>", "");
        dataBehind("</n>", "</n>", "");
        dataBehind("<n a>", "<n a=''>", "");
        dataBehind("<n a=>", "<n a=''>", "10@5 ");
        dataBehind("<n a=v>", "<n a='v'>", "");
        dataBehind("<n a='v'>", "<n a='v'>", "");
        dataBehind("<!>", "{}", "16@2 ");
        dataBehind("<!---->", "{}", "");
        dataBehind("<!-->", "{}", "17@4 ");
        dataBehind("<!--->", "{}", "17@5 ");
        dataBehind("<!--c-->", "{c}", "");
        dataBehind("<!--c--!>", "{c}", "20@8 ");
        dataBehind("<!doctype>", "!?", "22@9 ");
        dataBehind("<!doctype d>", "!d", "");
        dataBehind("<!doctype d >", "!d", "");
        dataBehind("<!doctype d o>", "!d?", "24@12 ");
    }

    private static void dataBehind(String before, String told, String faults) {
        data(before, told, told + " | \"", faults);
    }

    /** What is told if the text ends there, and how the tokens go on if more of the text comes. */
    private static void data(String before, String told, String open, String faults) {
        int c = before.length();
        way(before, "y")
                .on("&", open + "&y\"", faults.trim())
                .on("<", told, faults + "6@" + (c + 2))
                .on("\0", open + "[0]y\"", faults + "1@" + c)
                .end(told, faults.trim())
                .others(open + "%cy\"", faults.trim());
    }

    private static void tag() {
        way("<", ">")
                .on("!", "{}", "16@2")
                .on("/", "", "5@2")
                .on(Step.LETTERS, "<%l>", "")
                .on("?", "{?}", "2@1")
                .on("<", "\"<<>\"", "4@1 4@2")
                .on("\0", "\"<[0]>\"", "4@1 1@1")
                .end("\"<\"", "3@1")
                .others("\"<%c>\"", "4@1");
    }

    private static void endTag() {
        way("</", ">")
                .on(Step.LETTERS, "</%l>", "")
                .on(">", "\">\"", "5@2")
                .on("\0", "{[65533]}", "4@2 1@2")
                .end("\"</\"", "3@2")
                .others("{%c}", "4@2");
    }

    private static void mark() {
        way("<!", "->")
                .on("-", "{}", "17@4")
                .on(">", "{} | \"->\"", "16@2")
                .on("\0", "{[65533]-}", "16@2 1@2")
                .end("{}", "16@2")
                .others("{%c-}", "16@2");
        way("<!-", "x-->")
                .on("-", "{x}", "")
                .on(">", "{-} | \"x-->\"", "16@2")
                .on("\0", "{-[65533]x--}", "16@2 1@3")
                .end("{-}", "16@2")
                .others("{-%cx--}", "16@2");
    }

    /** Each of the seven letters may be great or small, and must be there. */
    private static void markOfDoctypes() {
        String small = "doctype";
        String great = "DOCTYPE";
        for (int k = 0; k < small.length(); k++) {
            String before = small.substring(0, k);
            String behind = great.substring(k + 1);
            way("<!" + before, behind + " n>")
                    .on(small.substring(k, k + 1), "!n", "")
                    .on(great.substring(k, k + 1), "!n", "")
                    .on(">", "{" + before + "} | \"" + behind + " n>\"", "16@2")
                    .on("\0", "{" + before + "[65533]" + behind + " n}", "16@2 1@" + (2 + k))
                    .others("{" + before + "%c" + behind + " n}", "16@2");
        }
    }

    private static void markCutShort() {
        String letters = "dOcTyPe";
        for (int k = 0; k < letters.length(); k++) {
            CHECKS.cut("<!" + letters.substring(0, k), "{" + letters.substring(0, k) + "}", "16@2");
        }
        CHECKS.cut("<!" + letters, "!?", "23@9");
    }

    private static void bogus() {
        bogus("<?", "?", "2@1");
        bogus("<?b", "?b", "2@1");
        bogus("</ ", " ", "4@2");
        bogus("</&", "&", "4@2");
        bogus("<!b", "b", "16@2");
        bogus("<!b--", "b--", "16@2");
        bogus("<!doctyp ", "doctyp ", "16@2");
        bogus("<?\0", "?[65533]", "2@1 1@2");
    }

    private static void bogus(String before, String own, String told) {
        way(before, "e>")
                .on(">", "{" + own + "} | \"e>\"", told)
                .on("\0", "{" + own + "[65533]e}", told + " 1@" + before.length())
                .end("{" + own + "}", told)
                .others("{" + own + "%ce}", told);
    }
}
