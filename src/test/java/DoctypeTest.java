/** Promise 5: the ways from DOCTYPE to DOCTYPEODD. */
public final class DoctypeTest {
    private static final Checks CHECKS = new Checks();

    public static void main(String[] args) {
        starts();
        names();
        behindNames();
        CHECKS.end();
    }

    private static void starts() {
        CHECKS.cut("<!DOCTYPE html>a", "!html | \"a\"", "");
        CHECKS.cut("<!dOcTyPe\n\t HtMl>", "!html", "");
        CHECKS.cut("a<!doctype", "\"a\" | !?", "23@10");
        CHECKS.cut("<!doctype  ", "!?", "23@11");
        CHECKS.cut("<!doctype>a", "!? | \"a\"", "22@9");
        CHECKS.cut("<!doctype >", "!?", "22@10");
        CHECKS.cut("<!doctypehtml>", "!html", "21@9");
        CHECKS.cut("<!doctype\0>", "![65533]", "21@9 1@9");
    }

    private static void names() {
        CHECKS.cut("<!doctype a\0B\">", "!a[65533]b\"", "1@11");
        CHECKS.cut("<!doctype a", "!a?", "23@11");
        CHECKS.cut("<!doctype a/<&amp;>", "!a/<&amp;", "");
    }

    private static void behindNames() {
        CHECKS.cut("<!doctype a >", "!a", "");
        CHECKS.cut("<!doctype a ", "!a?", "23@12");
        CHECKS.cut("<!doctype a \n b>c", "!a? | \"c\"", "24@14");
        CHECKS.cut("<!doctype a \0\0>", "!a?", "24@12 1@12 1@13");
        CHECKS.cut("<!doctype a public \"x\"", "!a?", "24@12");
        CHECKS.cut("<!doctype a b><!doctype c>", "!a? | !c", "24@12");
    }
}
