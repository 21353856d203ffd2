/** The ways from COMMENTSTART to COMMENTBANG, each at every character and at END. */
public final class CommentWaysTest {
    private static final Checks CHECKS = new Checks();

    public static void main(String[] args) {
        commentStart();
        startDash();
        comment();
        commentBeginsWithin();
        commentThatMayBeginWithin();
        commentDash();
        commentEnd();
        commentBang();
        CHECKS.end();
    }

    private static Step way(String before, String behind) {
        return new Step(CHECKS, before, behind);
    }

    private static void commentStart() {
        way("<!--", "-->")
                .on("-", "{-}", "")
                .on(">", "{} | \"-->\"", "17@4")
                .on("\0", "{[65533]}", "1@4")
                .end("{}", "18@4")
                .others("{%c}", "");
    }

    private static void startDash() {
        way("<!---", "-->")
                .on("-", "{--}", "")
                .on(">", "{} | \"-->\"", "17@5")
                .on("\0", "{-[65533]}", "1@5")
                .end("{}", "18@5")
                .others("{-%c}", "");
    }

    private static void comment() {
        way("<!--c", "-->")
                .on("-", "{c-}", "")
                .on("\0", "{c[65533]}", "1@5")
                .end("{c}", "18@5")
                .others("{c%c}", "");
    }

    /** Behind the <, ! and two - that are read here neither > nor END is a fault 19. */
    private static void commentBeginsWithin() {
        way("<!--c<!--", "-->")
                .on(">", "{c<!} | \"-->\"", "")
                .on("-", "{c<!---}", "19@9")
                .on("\0", "{c<!--[65533]}", "19@9 1@9")
                .end("{c<!}", "18@9")
                .others("{c<!--%c}", "19@9");
        way("<!--<!--", "-->")
                .on(">", "{<!} | \"-->\"", "")
                .on("-", "{<!---}", "19@8")
                .on("\0", "{<!--[65533]}", "19@8 1@8")
                .end("{<!}", "18@8")
                .others("{<!--%c}", "19@8");
        CHECKS.cut("<!--c<!--!>", "{c<!}", "19@9 20@10");
        CHECKS.cut("<!--c<!---", "{c<!-}", "19@9 18@10");
        CHECKS.cut("<!--c<!--<!-->", "{c<!--<!}", "19@9");
        CHECKS.cut("<!--c<!--<!--d-->", "{c<!--<!--d}", "19@9 19@13");
    }

    private static void commentThatMayBeginWithin() {
        way("<!--c<", "-->")
                .on("\0", "{c<[65533]}", "1@6")
                .on("-", "{c<-}", "")
                .end("{c<}", "18@6")
                .others("{c<%c}", "");
        way("<!--c<!", "-->")
                .on("-", "{c<!-}", "19@9")
                .on("\0", "{c<![65533]}", "1@7")
                .end("{c<!}", "18@7")
                .others("{c<!%c}", "");
        way("<!--c<!-", "-->")
                .on("-", "{c<!--}", "19@9")
                .on("\0", "{c<!-[65533]}", "1@8")
                .end("{c<!}", "18@8")
                .others("{c<!-%c}", "");
    }

    private static void commentDash() {
        way("<!--c-", "-->")
                .on("-", "{c--}", "")
                .on("\0", "{c-[65533]}", "1@6")
                .end("{c}", "18@6")
                .others("{c-%c}", "");
    }

    private static void commentEnd() {
        way("<!--c--", "-->")
                .on(">", "{c} | \"-->\"", "")
                .on("-", "{c---}", "")
                .on("\0", "{c--[65533]}", "1@7")
                .end("{c}", "18@7")
                .others("{c--%c}", "");
    }

    private static void commentBang() {
        way("<!--c--!", "-->")
                .on("-", "{c--!-}", "")
                .on(">", "{c} | \"-->\"", "20@8")
                .on("\0", "{c--![65533]}", "1@8")
                .end("{c}", "18@8")
                .others("{c--!%c}", "");
        CHECKS.cut("<!--c--!-", "{c--!}", "18@9");
        CHECKS.cut("<!--c--!->-->", "{c--!->}", "");
    }
}
