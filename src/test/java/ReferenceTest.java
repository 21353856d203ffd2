/** Promise 5: references in texts and in values; NameTest and NumberTest have each one. */
public final class ReferenceTest {
    private static final Checks CHECKS = new Checks();

    public static void main(String[] args) {
        longestNames();
        noNames();
        namesInValues();
        digits();
        otherCharacters();
        CHECKS.end();
    }

    private static void longestNames() {
        CHECKS.cut("&notin;", "\"[8713]\"", "");
        CHECKS.cut("&notit;", "\"[172]it;\"", "25@4");
        CHECKS.cut("&notin", "\"[172]in\"", "25@4");
        CHECKS.cut("&notni", "\"[172]ni\"", "25@4");
        CHECKS.cut("&copysr", "\"[169]sr\"", "25@5");
        CHECKS.cut("&timesb", "\"[215]b\"", "25@6");
        CHECKS.cut("&par", "\"&par\"", "");
        CHECKS.cut("&para;&par;", "\"[182][8741]\"", "");
        CHECKS.cut("&ampamp;", "\"&amp;\"", "25@4");
        CHECKS.cut("&amp&amp", "\"&&\"", "25@4 25@8");
        CHECKS.cut("&ltamp;", "\"<amp;\"", "25@3");
        CHECKS.cut("&sup21", "\"[178]1\"", "25@5");
    }

    private static void noNames() {
        CHECKS.cut("&abc", "\"&abc\"", "");
        CHECKS.cut("&abc;d", "\"&abc;d\"", "26@4");
        CHECKS.cut("&Amp;", "\"&Amp;\"", "26@4");
        CHECKS.cut("&1z9;", "\"&1z9;\"", "26@4");
        CHECKS.cut("&0Z;&A9;", "\"&0Z;&A9;\"", "26@3 26@7");
        CHECKS.cut("&abc&lt;", "\"&abc<\"", "");
        CHECKS.cut("&xamp;", "\"&xamp;\"", "26@5");
        CHECKS.cut("&abc<d>", "\"&abc\" | <d>", "");
    }

    private static void namesInValues() {
        CHECKS.cut("<a b='&amp;&lt;'>", "<a b='&<'>", "");
        CHECKS.cut("<a b='&amp'>", "<a b='&'>", "25@10");
        CHECKS.cut("<a b='&ampx&amp=&amp1'>", "<a b='&ampx&amp=&amp1'>", "");
        CHECKS.cut("<a b='&amp0&amp9&ampA&ampZ&ampa&ampz'>", "<a b='&amp0&amp9&ampA&ampZ&ampa&ampz'>", "");
        CHECKS.cut("<a b='&amp-'>", "<a b='&-'>", "25@10");
        CHECKS.cut("<a b=&amp>", "<a b='&'>", "25@9");
        CHECKS.cut("<a b=&ampz>", "<a b='&ampz'>", "");
        CHECKS.cut("<a b=&amp=>", "<a b='&amp='>", "11@9");
        CHECKS.cut("<a b='&notit;'>", "<a b='&notit;'>", "");
        CHECKS.cut("<a b='&notin;x'>", "<a b='[8713]x'>", "");
        CHECKS.cut("<a b='&amp;x'>", "<a b='&x'>", "");
        CHECKS.cut("<a b=\"&abc;&quot;\">", "<a b='&abc;\"'>", "26@10");
        CHECKS.cut("<a b=&abc;>", "<a b='&abc;'>", "26@9");
        CHECKS.cut("<a b='&amp", "", "25@10 6@10");
        CHECKS.cut("&amp=", "\"&=\"", "25@4");
        CHECKS.cut("<a b=& c='&'>", "<a b='&' c='&'>", "");
        CHECKS.cut("<a &amp;>", "<a &amp;=''>", "");
    }

    private static void digits() {
        CHECKS.cut("&#65;&#x41;&#X4a;&#x4A;", "\"AAJJ\"", "");
        CHECKS.cut("&#65", "\"A\"", "25@4");
        CHECKS.cut("&#65a", "\"Aa\"", "25@4");
        CHECKS.cut("&#x41g", "\"Ag\"", "25@5");
        CHECKS.cut("&#00065;", "\"A\"", "");
        CHECKS.cut("&#", "\"&#\"", "27@2");
        CHECKS.cut("&#;", "\"&#;\"", "27@2");
        CHECKS.cut("&#a", "\"&#a\"", "27@2");
        CHECKS.cut("&#x", "\"&#x\"", "27@3");
        CHECKS.cut("&#X;", "\"&#X;\"", "27@3");
        CHECKS.cut("&#xg&lt;", "\"&#xg<\"", "27@3");
        CHECKS.cut("&#xx41;", "\"&#xx41;\"", "27@3");
        CHECKS.cut("<a b='&#65;&#x'>", "<a b='A&#x'>", "27@14");
        CHECKS.cut("<a b='&#65x'>", "<a b='Ax'>", "25@10");
        CHECKS.cut("<a b=&#65>", "<a b='A'>", "25@9");
        CHECKS.cut("<a b=&#>", "<a b='&#'>", "27@7");
    }

    private static void otherCharacters() {
        CHECKS.cut("&", "\"&\"", "");
        CHECKS.cut("& ;&;", "\"& ;&;\"", "");
        CHECKS.cut("&&amp;", "\"&&\"", "");
        CHECKS.cut("&<a>", "\"&\" | <a>", "");
        CHECKS.cut("&\0", "\"&[0]\"", "1@1");
        CHECKS.cut("a&amp;b", "\"a&b\"", "");
        CHECKS.cut("<!--&amp;-->&amp;", "{&amp;} | \"&\"", "");
    }
}
