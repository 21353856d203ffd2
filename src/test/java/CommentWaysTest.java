/** The ways from COMMENTSTART to COMMENTBANG, each at every character and at END, from wherever they are reached. */
public final class CommentWaysTest {
    private static final Checks CHECKS = new Checks();

    public static void main(String[] args) {
        commentStart();
        startDash();
        comment();
        commentBeginsWithin();
        commentThatMayBeginWithin();
        commentDash();
        commentEnd();
        commentBang();
        CHECKS.end();
    }

    private static Step way(String before, String behind) {
        return new Step(CHECKS, before, behind);
    }

    private static void commentStart() {
        way("<!--", "-->")
                .on("-", "{-}", "")
                .on(">", "{} | \"-->\"", "17@4")
                .on("\0", "{[65533]}", "1@4")
                .end("{}", "18@4")
                .others("{%c}", "");
    }

    private static void startDash() {
        way("<!---", "-->")
                .on("-", "{--}", "")
                .on(">", "{} | \"-->\"", "17@5")
                .on("\0", "{-[65533]}", "1@5")
                .end("{}", "18@5")
                .others("{-%c}", "");
    }

    private static void comment() {
        comment("<!--c", "c");
        comment("<!--!", "!");
        comment("<!--<", "<");
        comment("<!---c", "-c");
        comment("<!---!", "-!");
        comment("<!--c-d", "c-d");
        comment("<!--c->", "c->");
        comment("<!--c--d", "c--d");
        comment("<!--c--!d", "c--!d");
        comment("<!--c--!->", "c--!->");
    }

    private static void comment(String before, String own) {
        int c = before.length();
        way(before, "-->")
                .on("-", "{" + own + "-}", "")
                .on("\0", "{" + own + "[65533]}", "1@" + c)
                .end("{" + own + "}", "18@" + c)
                .others("{" + own + "%c}", "");
    }

    private static void commentBeginsWithin() {
        commentBeginsWithin("<!--<!--", "<!");
        commentBeginsWithin("<!---<!--", "-<!");
        commentBeginsWithin("<!--c<!--", "c<!");
        commentBeginsWithin("<!--c-<!--", "c-<!");
        commentBeginsWithin("<!--c--<!--", "c--<!");
        commentBeginsWithin("<!--c--!<!--", "c--!<!");
        commentBeginsWithin("<!--<<!--", "<<!");
        commentBeginsWithin("<!--<!<!--", "<!<!");
        commentBeginsWithin("<!--<!-<!--", "<!-<!");
        CHECKS.cut("<!--c<!--!>", "{c<!}", "19@9 20@10");
        CHECKS.cut("<!--c<!---", "{c<!-}", "19@9 18@10");
        CHECKS.cut("<!--c<!--<!-->", "{c<!--<!}", "19@9");
        CHECKS.cut("<!--c<!--<!--d-->", "{c<!--<!--d}", "19@9 19@13");
    }

    /** Behind the <, ! and two - that are read here neither > nor END is a fault 19. */
    private static void commentBeginsWithin(String before, String own) {
        int c = before.length();
        way(before, "-->")
                .on(">", "{" + own + "} | \"-->\"", "")
                .on("-", "{" + own + "---}", "19@" + c)
                .on("\0", "{" + own + "--[65533]}", "19@" + c + " 1@" + c)
                .end("{" + own + "}", "18@" + c)
                .others("{" + own + "--%c}", "19@" + c);
    }

    /** Each of the three that stand behind the < must be the right one. */
    private static void commentThatMayBeginWithin() {
        way("<!--c", "!--d-->")
                .on("<", "{c<!--d}", "19@9")
                .on("\0", "{c[65533]!--d}", "1@5")
                .on("-", "{c-!--d}", "")
                .others("{c%c!--d}", "");
        way("<!--c<", "--d-->")
                .on("!", "{c<!--d}", "19@9")
                .on("\0", "{c<[65533]--d}", "1@6")
                .on("-", "{c<---d}", "")
                .end("{c<}", "18@6")
                .others("{c<%c--d}", "");
        way("<!--c<!", "-d-->")
                .on("-", "{c<!--d}", "19@9")
                .on("\0", "{c<![65533]-d}", "1@7")
                .end("{c<!}", "18@7")
                .others("{c<!%c-d}", "");
        way("<!--c<!-", "d-->")
                .on("-", "{c<!--d}", "19@9")
                .on("\0", "{c<!-[65533]d}", "1@8")
                .end("{c<!}", "18@8")
                .others("{c<!-%cd}", "");
        CHECKS.cut("<!--c<! --d-->", "{c<! --d}", "");
        CHECKS.cut("<!-- !--d-->", "{ !--d}", "");
        CHECKS.cut("<!--!--d-->", "{!--d}", "");
        CHECKS.cut("<?<!--d>", "{?<!--d}", "2@1");
    }

    private static void commentDash() {
        commentDash("<!--c-", "c");
        commentDash("<!---c-", "-c");
        commentDash("<!--c--!-", "c--!");
        commentDash("<!--c-d-", "c-d");
    }

    private static void commentDash(String before, String own) {
        int c = before.length();
        way(before, "-->")
                .on("-", "{" + own + "--}", "")
                .on("\0", "{" + own + "-[65533]}", "1@" + c)
                .end("{" + own + "}", "18@" + c)
                .others("{" + own + "-%c}", "");
    }

    private static void commentEnd() {
        commentEnd("<!----", "");
        commentEnd("<!-----", "-");
        commentEnd("<!--c--", "c");
        commentEnd("<!--c---", "c-");
        commentEnd("<!--c----", "c--");
        commentEnd("<!--c--!--", "c--!");
    }

    private static void commentEnd(String before, String own) {
        int c = before.length();
        way(before, "-->")
                .on(">", "{" + own + "} | \"-->\"", "")
                .on("-", "{" + own + "---}", "")
                .on("\0", "{" + own + "--[65533]}", "1@" + c)
                .end("{" + own + "}", "18@" + c)
                .others("{" + own + "--%c}", "");
    }

    private static void commentBang() {
        commentBang("<!----!", "");
        commentBang("<!--c--!", "c");
        commentBang("<!--c---!", "c-");
        commentBang("<!--c--!--!", "c--!");
    }

    private static void commentBang(String before, String own) {
        int c = before.length();
        way(before, "-->")
                .on("-", "{" + own + "--!-}", "")
                .on(">", "{" + own + "} | \"-->\"", "20@" + c)
                .on("\0", "{" + own + "--![65533]}", "1@" + c)
                .end("{" + own + "}", "18@" + c)
                .others("{" + own + "--!%c}", "");
    }
}
