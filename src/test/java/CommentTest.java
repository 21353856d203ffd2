/** Promise 5: the ways from COMMENTSTART to COMMENTBANG. */
public final class CommentTest {
    private static final Checks CHECKS = new Checks();

    public static void main(String[] args) {
        starts();
        dashes();
        ends();
        bangs();
        nested();
        CHECKS.end();
    }

    private static void starts() {
        CHECKS.cut("<!--a-->b", "{a} | \"b\"", "");
        CHECKS.cut("<!---->", "{}", "");
        CHECKS.cut("<!-->b", "{} | \"b\"", "17@4");
        CHECKS.cut("<!--->b", "{} | \"b\"", "17@5");
        CHECKS.cut("<!---a-->", "{-a}", "");
        CHECKS.cut("<!--A&amp;<b>-->", "{A&amp;<b>}", "");
        CHECKS.cut("<!--\0-->", "{[65533]}", "1@4");
        CHECKS.cut("<!---\0-->", "{-[65533]}", "1@5");
    }

    private static void dashes() {
        CHECKS.cut("<!--a-b-->", "{a-b}", "");
        CHECKS.cut("<!--a--b-->", "{a--b}", "");
        CHECKS.cut("<!--a--->", "{a-}", "");
        CHECKS.cut("<!----->", "{-}", "");
        CHECKS.cut("<!------>", "{--}", "");
        CHECKS.cut("<!--a->b-->", "{a->b}", "");
        CHECKS.cut("<!--a-\0--\0-->", "{a-[65533]--[65533]}", "1@6 1@9");
    }

    private static void ends() {
        CHECKS.cut("<!--", "{}", "18@4");
        CHECKS.cut("<!---", "{}", "18@5");
        CHECKS.cut("<!----", "{}", "18@6");
        CHECKS.cut("<!----!", "{}", "18@7");
        CHECKS.cut("<!--a", "{a}", "18@5");
        CHECKS.cut("<!--a-", "{a}", "18@6");
        CHECKS.cut("<!--a--", "{a}", "18@7");
        CHECKS.cut("<!--a---", "{a-}", "18@8");
        CHECKS.cut("<!--a--!", "{a}", "18@8");
    }

    private static void bangs() {
        CHECKS.cut("<!--a--!>b", "{a} | \"b\"", "20@8");
        CHECKS.cut("<!----!>", "{}", "20@7");
        CHECKS.cut("<!--a--!b-->", "{a--!b}", "");
        CHECKS.cut("<!--a--!-->", "{a--!}", "");
        CHECKS.cut("<!--a--!-b-->", "{a--!-b}", "");
        CHECKS.cut("<!--a--!\0-->", "{a--![65533]}", "1@8");
        CHECKS.cut("<!--a--!!>-->", "{a--!!>}", "");
    }

    private static void nested() {
        CHECKS.cut("<!--a<!--b-->", "{a<!--b}", "19@9");
        CHECKS.cut("<!--<!--b-->", "{<!--b}", "19@8");
        CHECKS.cut("<!---<!--b-->", "{-<!--b}", "19@9");
        CHECKS.cut("<!--a--<!--b-->", "{a--<!--b}", "19@11");
        CHECKS.cut("<!--a<!-->", "{a<!}", "");
        CHECKS.cut("<!--a<!--", "{a<!}", "18@9");
        CHECKS.cut("<!--a<!--->", "{a<!-}", "19@9");
        CHECKS.cut("<!--a<!--!>", "{a<!}", "19@9 20@10");
        CHECKS.cut("<!--a<!--\0-->", "{a<!--[65533]}", "19@9 1@9");
        CHECKS.cut("<!--a<!-b-->", "{a<!-b}", "");
        CHECKS.cut("<!--a<<!--b<!--c-->", "{a<<!--b<!--c}", "19@10 19@15");
        CHECKS.cut("<!x<!--b>", "{x<!--b}", "16@2");
        CHECKS.cut("<!--a<!--b--><!--cdef-->", "{a<!--b} | {cdef}", "19@9");
    }
}
