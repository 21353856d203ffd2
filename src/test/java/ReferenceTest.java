/** Promise 5: references in texts and in values. */
public final class ReferenceTest {
    private static final Checks CHECKS = new Checks();

    private static final String[] FREE = {
        "amp", "38", "AMP", "38", "lt", "60", "LT", "60", "gt", "62", "GT", "62", "quot", "34",
        "QUOT", "34", "nbsp", "160", "copy", "169", "COPY", "169", "reg", "174", "REG", "174",
        "not", "172", "shy", "173", "yen", "165", "deg", "176", "times", "215", "para", "182",
        "sup2", "178", "frac12", "189"
    };
    private static final String[] CLOSED = {
        "apos", "39", "num", "35", "notin", "8713", "notni", "8716", "timesb", "8864",
        "copysr", "8471", "hellip", "8230", "euro", "8364", "ne", "8800", "le", "8804", "par", "8741"
    };
    private static final int[] REPLACED = {
        128, 8364, 130, 8218, 131, 402, 132, 8222, 133, 8230, 134, 8224, 135, 8225, 136, 710,
        137, 8240, 138, 352, 139, 8249, 140, 338, 142, 381, 145, 8216, 146, 8217, 147, 8220,
        148, 8221, 149, 8226, 150, 8211, 151, 8212, 152, 732, 153, 8482, 154, 353, 155, 8250,
        156, 339, 158, 382, 159, 376
    };

    public static void main(String[] args) {
        freeNames();
        closedNames();
        longestNames();
        noNames();
        namesInValues();
        digits();
        numbersWithFaults();
        controls();
        otherCharacters();
        CHECKS.end();
    }

    private static void freeNames() {
        for (int k = 0; k < FREE.length; k += 2) {
            String name = FREE[k];
            String given = Markup.visible(Integer.parseInt(FREE[k + 1]));
            CHECKS.cut("&" + name + ";x", "\"" + given + "x\"", "");
            CHECKS.cut("&" + name, "\"" + given + "\"", "25@" + (name.length() + 1));
            CHECKS.cut("&" + name + " ", "\"" + given + " \"", "25@" + (name.length() + 1));
        }
    }

    private static void closedNames() {
        for (int k = 0; k < CLOSED.length; k += 2) {
            String given = Markup.visible(Integer.parseInt(CLOSED[k + 1]));
            CHECKS.cut("&" + CLOSED[k] + ";", "\"" + given + "\"", "");
        }
        String[] open = {"apos", "num", "hellip", "euro", "ne", "le", "par"};
        for (String name : open) {
            CHECKS.cut("&" + name, "\"&" + name + "\"", "");
            CHECKS.cut("&" + name + " &" + name, "\"&" + name + " &" + name + "\"", "");
        }
    }

    private static void longestNames() {
        CHECKS.cut("&notin;", "\"[8713]\"", "");
        CHECKS.cut("&notit;", "\"[172]it;\"", "25@4");
        CHECKS.cut("&notin", "\"[172]in\"", "25@4");
        CHECKS.cut("&notni", "\"[172]ni\"", "25@4");
        CHECKS.cut("&copysr", "\"[169]sr\"", "25@5");
        CHECKS.cut("&timesb", "\"[215]b\"", "25@6");
        CHECKS.cut("&par", "\"&par\"", "");
        CHECKS.cut("&para;&par;", "\"[182][8741]\"", "");
        CHECKS.cut("&ampamp;", "\"&amp;\"", "25@4");
        CHECKS.cut("&amp&amp", "\"&&\"", "25@4 25@8");
        CHECKS.cut("&ltamp;", "\"<amp;\"", "25@3");
        CHECKS.cut("&sup21", "\"[178]1\"", "25@5");
    }

    private static void noNames() {
        CHECKS.cut("&abc", "\"&abc\"", "");
        CHECKS.cut("&abc;d", "\"&abc;d\"", "26@4");
        CHECKS.cut("&Amp;", "\"&Amp;\"", "26@4");
        CHECKS.cut("&1z9;", "\"&1z9;\"", "26@4");
        CHECKS.cut("&0Z;&A9;", "\"&0Z;&A9;\"", "26@3 26@7");
        CHECKS.cut("&abc&lt;", "\"&abc<\"", "");
        CHECKS.cut("&xamp;", "\"&xamp;\"", "26@5");
        CHECKS.cut("&abc<d>", "\"&abc\" | <d>", "");
    }

    private static void namesInValues() {
        CHECKS.cut("<a b='&amp;&lt;'>", "<a b='&<'>", "");
        CHECKS.cut("<a b='&amp'>", "<a b='&'>", "25@10");
        CHECKS.cut("<a b='&ampx&amp=&amp1'>", "<a b='&ampx&amp=&amp1'>", "");
        CHECKS.cut("<a b='&amp0&amp9&ampA&ampZ&ampa&ampz'>", "<a b='&amp0&amp9&ampA&ampZ&ampa&ampz'>", "");
        CHECKS.cut("<a b='&amp-'>", "<a b='&-'>", "25@10");
        CHECKS.cut("<a b=&amp>", "<a b='&'>", "25@9");
        CHECKS.cut("<a b=&ampz>", "<a b='&ampz'>", "");
        CHECKS.cut("<a b=&amp=>", "<a b='&amp='>", "11@9");
        CHECKS.cut("<a b='&notit;'>", "<a b='&notit;'>", "");
        CHECKS.cut("<a b='&notin;x'>", "<a b='[8713]x'>", "");
        CHECKS.cut("<a b='&amp;x'>", "<a b='&x'>", "");
        CHECKS.cut("<a b=\"&abc;&quot;\">", "<a b='&abc;\"'>", "26@10");
        CHECKS.cut("<a b=&abc;>", "<a b='&abc;'>", "26@9");
        CHECKS.cut("<a b='&amp", "", "25@10 6@10");
        CHECKS.cut("&amp=", "\"&=\"", "25@4");
        CHECKS.cut("<a b=& c='&'>", "<a b='&' c='&'>", "");
        CHECKS.cut("<a &amp;>", "<a &amp;=''>", "");
    }

    private static void digits() {
        CHECKS.cut("&#65;&#x41;&#X4a;&#x4A;", "\"AAJJ\"", "");
        CHECKS.cut("&#65", "\"A\"", "25@4");
        CHECKS.cut("&#65a", "\"Aa\"", "25@4");
        CHECKS.cut("&#x41g", "\"Ag\"", "25@5");
        CHECKS.cut("&#00065;", "\"A\"", "");
        CHECKS.cut("&#", "\"&#\"", "27@2");
        CHECKS.cut("&#;", "\"&#;\"", "27@2");
        CHECKS.cut("&#a", "\"&#a\"", "27@2");
        CHECKS.cut("&#x", "\"&#x\"", "27@3");
        CHECKS.cut("&#X;", "\"&#X;\"", "27@3");
        CHECKS.cut("&#xg&lt;", "\"&#xg<\"", "27@3");
        CHECKS.cut("&#xx41;", "\"&#xx41;\"", "27@3");
        CHECKS.cut("<a b='&#65;&#x'>", "<a b='A&#x'>", "27@14");
        CHECKS.cut("<a b='&#65x'>", "<a b='Ax'>", "25@10");
        CHECKS.cut("<a b=&#65>", "<a b='A'>", "25@9");
        CHECKS.cut("<a b=&#>", "<a b='&#'>", "27@7");
    }

    private static void numbersWithFaults() {
        CHECKS.cut("&#0;", "\"[65533]\"", "28@4");
        CHECKS.cut("&#x0", "\"[65533]\"", "25@4 28@4");
        CHECKS.cut("&#0\0", "\"[65533][0]\"", "25@3 28@3 1@3");
        CHECKS.cut("&#1114111;", "\"[1114111]\"", "31@10");
        CHECKS.cut("&#1114112;", "\"[65533]\"", "29@10");
        CHECKS.cut("&#x10FFFD;", "\"[1114109]\"", "");
        CHECKS.cut("&#x110000;", "\"[65533]\"", "29@10");
        CHECKS.cut("&#4294967361;&#x100000041;", "\"[65533][65533]\"", "29@13 29@26");
        CHECKS.cut("&#" + "9".repeat(390) + ";", "\"[65533]\"", "29@393");
        CHECKS.cut("&#55295;&#55296;&#57343;&#57344;", "\"[55295][65533][65533][57344]\"", "30@16 30@24");
        CHECKS.cut("&#64975;&#64976;&#65007;&#65008;", "\"[64975][64976][65007][65008]\"", "31@16 31@24");
        CHECKS.cut("&#65533;&#65534;&#65535;&#65536;", "\"[65533][65534][65535][65536]\"", "31@16 31@24");
        CHECKS.cut("&#x1FFFD;&#x1FFFE;&#x1FFFF;", "\"[131069][131070][131071]\"", "31@18 31@27");
    }

    private static void controls() {
        for (int number = 1; number < 300; number++) {
            int given = number;
            for (int k = 0; k < REPLACED.length; k += 2) {
                given = REPLACED[k] == number ? REPLACED[k + 1] : given;
            }
            String text = "&#" + number + ";";
            boolean blank = number == 9 || number == 10 || number == 12;
            boolean odd = number < 32 && !blank || number >= 127 && number <= 159;
            CHECKS.cut(text, "\"" + Markup.visible(given) + "\"", odd ? "32@" + text.length() : "");
        }
    }

    private static void otherCharacters() {
        CHECKS.cut("&", "\"&\"", "");
        CHECKS.cut("& ;&;", "\"& ;&;\"", "");
        CHECKS.cut("&&amp;", "\"&&\"", "");
        CHECKS.cut("&<a>", "\"&\" | <a>", "");
        CHECKS.cut("&\0", "\"&[0]\"", "1@1");
        CHECKS.cut("a&amp;b", "\"a&b\"", "");
        CHECKS.cut("<!--&amp;-->&amp;", "{&amp;} | \"&\"", "");
    }
}
