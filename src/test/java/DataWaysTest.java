/** The ways DATA, TAG, ENDTAG, MARK and BOGUS, each at every character and at END. */
public final class DataWaysTest {
    private static final Checks CHECKS = new Checks();

    public static void main(String[] args) {
        dataFirst();
        data();
        tag();
        endTag();
        mark();
        markOfDoctypes();
        markCutShort();
        bogus();
        CHECKS.end();
    }

    private static Step way(String before, String behind) {
        return new Step(CHECKS, before, behind);
    }

    private static void dataFirst() {
        way("", "")
                .on("<", "\"<\"", "3@1")
                .on("\0", "\"[0]\"", "1@0")
                .end("", "")
                .others("\"%c\"", "");
    }

    private static void data() {
        way("x", "y")
                .on("&", "\"x&y\"", "")
                .on("<", "\"x\"", "6@3")
                .on("\0", "\"x[0]y\"", "1@1")
                .end("\"x\"", "")
                .others("\"x%cy\"", "");
    }

    private static void tag() {
        way("<", ">")
                .on("!", "{}", "16@2")
                .on("/", "", "5@2")
                .on(Step.LETTERS, "<%l>", "")
                .on("?", "{?}", "2@1")
                .on("<", "\"<<>\"", "4@1 4@2")
                .on("\0", "\"<[0]>\"", "4@1 1@1")
                .end("\"<\"", "3@1")
                .others("\"<%c>\"", "4@1");
    }

    private static void endTag() {
        way("</", ">")
                .on(Step.LETTERS, "</%l>", "")
                .on(">", "\">\"", "5@2")
                .on("\0", "{[65533]}", "4@2 1@2")
                .end("\"</\"", "3@2")
                .others("{%c}", "4@2");
    }

    private static void mark() {
        way("<!", "->")
                .on("-", "{}", "17@4")
                .on(">", "{} | \"->\"", "16@2")
                .on("\0", "{[65533]-}", "16@2 1@2")
                .end("{}", "16@2")
                .others("{%c-}", "16@2");
        way("<!-", "x-->")
                .on("-", "{x}", "")
                .on(">", "{-} | \"x-->\"", "16@2")
                .on("\0", "{-[65533]x--}", "16@2 1@3")
                .end("{-}", "16@2")
                .others("{-%cx--}", "16@2");
    }

    /** Each of the seven letters may be great or small, and must be there. */
    private static void markOfDoctypes() {
        String small = "doctype";
        String great = "DOCTYPE";
        for (int k = 0; k < small.length(); k++) {
            String before = small.substring(0, k);
            String behind = great.substring(k + 1);
            way("<!" + before, behind + " n>")
                    .on(small.substring(k, k + 1), "!n", "")
                    .on(great.substring(k, k + 1), "!n", "")
                    .on(">", "{" + before + "} | \"" + behind + " n>\"", "16@2")
                    .on("\0", "{" + before + "[65533]" + behind + " n}", "16@2 1@" + (2 + k))
                    .others("{" + before + "%c" + behind + " n}", "16@2");
        }
    }

    private static void markCutShort() {
        String letters = "dOcTyPe";
        for (int k = 0; k < letters.length(); k++) {
            CHECKS.cut("<!" + letters.substring(0, k), "{" + letters.substring(0, k) + "}", "16@2");
        }
        CHECKS.cut("<!" + letters, "!?", "23@9");
    }

    private static void bogus() {
        way("<?b", "e>")
                .on(">", "{?b} | \"e>\"", "2@1")
                .on("\0", "{?b[65533]e}", "2@1 1@3")
                .end("{?b}", "2@1")
                .others("{?b%ce}", "2@1");
    }
}
