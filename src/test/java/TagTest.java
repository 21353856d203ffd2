/** Promise 5: the ways from NAME to SELF. */
public final class TagTest {
    private static final Checks CHECKS = new Checks();

    public static void main(String[] args) {
        names();
        attributeNames();
        sameNames();
        values();
        quotedValues();
        unquotedValues();
        selfClosing();
        endTags();
        CHECKS.end();
    }

    private static void names() {
        CHECKS.cut("<aBc1-\"'<=>", "<abc1-\"'<=>", "");
        CHECKS.cut("<a\0B>", "<a[65533]b>", "1@2");
        CHECKS.cut("<a\u00c4>", "<a[196]>", "");
        CHECKS.cut("<a", "", "6@2");
        CHECKS.cut("<a >", "<a>", "");
        CHECKS.cut("<a\n\t\f\r >", "<a>", "");
        CHECKS.cut("<a\u000bb>", "<a[11]b>", "");
    }

    private static void attributeNames() {
        CHECKS.cut("<a B c1 d>", "<a b='' c1='' d=''>", "");
        CHECKS.cut("<a b/c>", "<a b='' c=''>", "13@5");
        CHECKS.cut("<a =b>", "<a =b=''>", "7@3");
        CHECKS.cut("<a ==b>", "<a =='b'>", "7@3");
        CHECKS.cut("<a ===b>", "<a =='=b'>", "7@3 11@5");
        CHECKS.cut("<a b\0\"'<c>", "<a b[65533]\"'<c=''>", "1@4 8@5 8@6 8@7");
        CHECKS.cut("<a \"b\">", "<a \"b\"=''>", "8@3 8@5");
        CHECKS.cut("<a b  =  c>", "<a b='c'>", "");
        CHECKS.cut("<a b  c>", "<a b='' c=''>", "");
        CHECKS.cut("<a b \"c>", "<a b='' \"c=''>", "8@5");
        CHECKS.cut("<a b", "", "6@4");
        CHECKS.cut("<a b ", "", "6@5");
        CHECKS.cut("<a ", "", "6@3");
    }

    private static void sameNames() {
        CHECKS.cut("<a b=1 B=2 c>", "<a b='1' c=''>", "9@8");
        CHECKS.cut("<a b b b>", "<a b=''>", "9@6 9@8");
        CHECKS.cut("<a b b/>", "<a b=''/>", "9@6");
        CHECKS.cut("<a b b", "", "9@6 6@6");
        CHECKS.cut("<a b b =\0&#0; c=x>", "<a b='' c='x'>", "9@6 1@8 28@13");
        CHECKS.cut("<a b=1 b=2>", "<a b='1'>", "9@8");
        CHECKS.cut("<a b=1 b='2' c='3'>", "<a b='1' c='3'>", "9@8");
        CHECKS.cut("<a bc b c bc>", "<a bc='' b='' c=''>", "9@12");
        CHECKS.cut("<a \0 \0>", "<a [65533]=''>", "1@3 1@5 9@6");
        CHECKS.cut("<a b><c b>", "<a b=''> | <c b=''>", "");
        CHECKS.cut("<a = ===c>", "<a =='==c'>", "7@3 11@6 11@7");
        CHECKS.cut("<a =/==c>", "<a ==''>", "7@3 13@5 7@5 9@6");
    }

    private static void values() {
        CHECKS.cut("<a b=>", "<a b=''>", "10@5");
        CHECKS.cut("<a b= \n>", "<a b=''>", "10@7");
        CHECKS.cut("<a b=", "", "6@5");
        CHECKS.cut("<a b=/>", "<a b='/'>", "");
        CHECKS.cut("<a b=C>", "<a b='C'>", "");
    }

    private static void quotedValues() {
        CHECKS.cut("<a b=\"c'd>\" e='f\"g>'>", "<a b='c'd>' e='f\"g>'>", "");
        CHECKS.cut("<a b=''>", "<a b=''>", "");
        CHECKS.cut("<a b=\"\0\n=<`\">", "<a b='[65533][10]=<`'>", "1@6");
        CHECKS.cut("<a b='c", "", "6@7");
        CHECKS.cut("<a b='c'", "", "6@8");
        CHECKS.cut("<a b='c'd>", "<a b='c' d=''>", "12@8");
        CHECKS.cut("<a b='c'=d>", "<a b='c' =d=''>", "12@8 7@8");
        CHECKS.cut("<a b='c'\"d>", "<a b='c' \"d=''>", "12@8 8@8");
        CHECKS.cut("<a b='c'/>", "<a b='c'/>", "");
        CHECKS.cut("<a b='c' d>", "<a b='c' d=''>", "");
    }

    private static void unquotedValues() {
        CHECKS.cut("<a b=c/d e>", "<a b='c/d' e=''>", "");
        CHECKS.cut("<a b=c\"'<=`\0>", "<a b='c\"'<=`[65533]'>", "11@6 11@7 11@8 11@9 11@10 1@11");
        CHECKS.cut("<a b=<c>", "<a b='<c'>", "11@5");
        CHECKS.cut("<a b=\0>", "<a b='[65533]'>", "1@5");
        CHECKS.cut("<a b=c", "", "6@6");
    }

    private static void selfClosing() {
        CHECKS.cut("<a/>", "<a/>", "");
        CHECKS.cut("<a />", "<a/>", "");
        CHECKS.cut("<a b />", "<a b=''/>", "");
        CHECKS.cut("<a/ >", "<a>", "13@3");
        CHECKS.cut("<a//>", "<a/>", "13@3");
        CHECKS.cut("<a/=>", "<a ==''>", "13@3 7@3");
        CHECKS.cut("<a/\">", "<a \"=''>", "13@3 8@3");
        CHECKS.cut("<a/", "", "6@3");
        CHECKS.cut("<a/><b>", "<a/> | <b>", "");
    }

    private static void endTags() {
        CHECKS.cut("</a b>", "</a>", "14@5");
        CHECKS.cut("</a/>", "</a>", "15@4");
        CHECKS.cut("</a b=c b />", "</a>", "9@9 14@11 15@11");
        CHECKS.cut("</a b b>", "</a>", "9@7 14@7");
        CHECKS.cut("</a b=>", "</a>", "10@6 14@6");
        CHECKS.cut("</a b", "", "6@5");
        CHECKS.cut("</a b><c d>", "</a> | <c d=''>", "14@5");
    }
}
