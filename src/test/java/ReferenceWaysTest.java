/** What stands behind a &, in the text and in both kinds of values, at every character and at END. */
public final class ReferenceWaysTest {
    private static final Checks CHECKS = new Checks();
    private static final String LETTERS_AND_DIGITS = Step.LETTERS + Step.DIGITS;

    public static void main(String[] args) {
        firstInText();
        firstInQuoted();
        firstInUnquoted();
        behindNameInText();
        behindNameInQuoted();
        behindNameInUnquoted();
        behindNoNameInText();
        behindNoNameInQuoted();
        behindNoNameInUnquoted();
        noDigitsOfBase10();
        noDigitsOfBase16();
        behindDigitsOfBase10();
        behindDigitsOfBase16();
        digitsInQuoted();
        digitsInUnquoted();
        CHECKS.end();
    }

    private static Step way(String before, String behind) {
        return new Step(CHECKS, before, behind);
    }

    private static void firstInText() {
        way("&", ".")
                .on("#", "\"&#.\"", "27@2")
                .on("<", "\"&<.\"", "4@2")
                .on("\0", "\"&[0].\"", "1@1")
                .end("\"&\"", "")
                .others("\"&%c.\"", "");
    }

    private static void firstInQuoted() {
        way("<n a=\"&", "\">")
                .on("#", "<n a='&#'>", "27@8")
                .on("\"", "<n a='&' \"=''>", "12@8 8@8")
                .on("\0", "<n a='&[65533]'>", "1@7")
                .end("", "6@7")
                .others("<n a='&%c'>", "");
    }

    private static void firstInUnquoted() {
        way("<n a=&", ".>")
                .on("#", "<n a='&#.'>", "27@7")
                .on(Step.BLANKS, "<n a='&' .=''>", "")
                .on(">", "<n a='&'> | \".>\"", "")
                .on("\0", "<n a='&[65533].'>", "1@6")
                .on("\"'<=`", "<n a='&%c.'>", "11@6")
                .end("", "6@6")
                .others("<n a='&%c.'>", "");
    }

    private static void behindNameInText() {
        way("&lt", ".")
                .on(";", "\"<.\"", "")
                .on("<", "\"<<.\"", "25@3 4@4")
                .on("\0", "\"<[0].\"", "25@3 1@3")
                .end("\"<\"", "25@3")
                .others("\"<%c.\"", "25@3");
    }

    /** Before a letter, a digit or = it gives itself, without a fault. */
    private static void behindNameInQuoted() {
        way("<n a=\"&lt", "\">")
                .on(";", "<n a='<'>", "")
                .on(LETTERS_AND_DIGITS + "=", "<n a='&lt%c'>", "")
                .on("\"", "<n a='<' \"=''>", "25@9 12@10 8@10")
                .on("\0", "<n a='<[65533]'>", "25@9 1@9")
                .end("", "25@9 6@9")
                .others("<n a='<%c'>", "25@9");
    }

    private static void behindNameInUnquoted() {
        way("<n a=&lt", ".>")
                .on(";", "<n a='<.'>", "")
                .on(LETTERS_AND_DIGITS, "<n a='&lt%c.'>", "")
                .on("=", "<n a='&lt=.'>", "11@8")
                .on(Step.BLANKS, "<n a='<' .=''>", "25@8")
                .on(">", "<n a='<'> | \".>\"", "25@8")
                .on("\0", "<n a='<[65533].'>", "25@8 1@8")
                .on("\"'<`", "<n a='<%c.'>", "25@8 11@8")
                .end("", "25@8 6@8")
                .others("<n a='<%c.'>", "25@8");
    }

    private static void behindNoNameInText() {
        way("&zz", ".")
                .on(";", "\"&zz;.\"", "26@3")
                .on("<", "\"&zz<.\"", "4@4")
                .on("\0", "\"&zz[0].\"", "1@3")
                .end("\"&zz\"", "")
                .others("\"&zz%c.\"", "");
    }

    private static void behindNoNameInQuoted() {
        way("<n a='&zz", "'>")
                .on(";", "<n a='&zz;'>", "26@9")
                .on("'", "<n a='&zz' '=''>", "12@10 8@10")
                .on("\0", "<n a='&zz[65533]'>", "1@9")
                .end("", "6@9")
                .others("<n a='&zz%c'>", "");
    }

    private static void behindNoNameInUnquoted() {
        way("<n a=&zz", ".>")
                .on(";", "<n a='&zz;.'>", "26@8")
                .on(Step.BLANKS, "<n a='&zz' .=''>", "")
                .on(">", "<n a='&zz'> | \".>\"", "")
                .on("\0", "<n a='&zz[65533].'>", "1@8")
                .on("\"'<=`", "<n a='&zz%c.'>", "11@8")
                .end("", "6@8")
                .others("<n a='&zz%c.'>", "");
    }

    private static void noDigitsOfBase10() {
        Step way = way("&#", "9;");
        for (int digit = 0; digit < 10; digit++) {
            int number = 10 * digit + 9;
            // Of 9, 19, 29 and 39 the second and the third are below 32 and no blanks.
            boolean control = number == 19 || number == 29;
            way.on(String.valueOf(digit), "\"" + Markup.visible(number) + "\"", control ? "32@5" : "");
        }
        way.on("xX", "\"[9]\"", "")
                .on("<", "\"&#<9;\"", "27@2 4@3")
                .on("&", "\"&#&9;\"", "27@2 26@4")
                .on("\0", "\"&#[0]9;\"", "27@2 1@2")
                .end("\"&#\"", "27@2")
                .others("\"&#%c9;\"", "27@2");
    }

    private static void noDigitsOfBase16() {
        String digits = "0123456789abcdefABCDEF";
        Step way = way("&#x", "1;");
        for (int k = 0; k < digits.length(); k++) {
            int number = 16 * Character.digit(digits.charAt(k), 16) + 1;
            boolean control = number < 32 || number >= 127 && number <= 159;
            // 145 is one of those that give another character.
            String given = Markup.visible(number == 145 ? 8216 : number);
            way.on(digits.substring(k, k + 1), "\"" + given + "\"", control ? "32@6" : "");
        }
        way.on("<", "\"&#x<1;\"", "27@3 4@4")
                .on("&", "\"&#x&1;\"", "27@3 26@5")
                .on("\0", "\"&#x[0]1;\"", "27@3 1@3")
                .end("\"&#x\"", "27@3")
                .others("\"&#x%c1;\"", "27@3");
        CHECKS.cut("&#X", "\"&#X\"", "27@3");
        CHECKS.cut("&#Xg", "\"&#Xg\"", "27@3");
    }

    private static void behindDigitsOfBase10() {
        Step way = way("&#65", ".");
        for (int digit = 0; digit < 10; digit++) {
            way.on(String.valueOf(digit), "\"[" + (650 + digit) + "].\"", "25@5");
        }
        way.on(";", "\"A.\"", "")
                .on("<", "\"A<.\"", "25@4 4@5")
                .on("\0", "\"A[0].\"", "25@4 1@4")
                .end("\"A\"", "25@4")
                .others("\"A%c.\"", "25@4");
    }

    private static void behindDigitsOfBase16() {
        String digits = "0123456789abcdefABCDEF";
        Step way = way("&#X4a", ".");
        for (int k = 0; k < digits.length(); k++) {
            int number = 16 * 0x4a + Character.digit(digits.charAt(k), 16);
            way.on(digits.substring(k, k + 1), "\"[" + number + "].\"", "25@6");
        }
        way.on(";", "\"J.\"", "")
                .on("<", "\"J<.\"", "25@5 4@6")
                .on("\0", "\"J[0].\"", "25@5 1@5")
                .end("\"J\"", "25@5")
                .others("\"J%c.\"", "25@5");
    }

    /** Digits give their character in a value too, also before a letter or =. */
    private static void digitsInQuoted() {
        Step way = way("<n a='&#65", "'>");
        for (int digit = 0; digit < 10; digit++) {
            way.on(String.valueOf(digit), "<n a='[" + (650 + digit) + "]'>", "25@11");
        }
        way.on(";", "<n a='A'>", "")
                .on("'", "<n a='A' '=''>", "25@10 12@11 8@11")
                .on("\0", "<n a='A[65533]'>", "25@10 1@10")
                .end("", "25@10 6@10")
                .others("<n a='A%c'>", "25@10");
    }

    private static void digitsInUnquoted() {
        Step way = way("<n a=&#65", ".>");
        for (int digit = 0; digit < 10; digit++) {
            way.on(String.valueOf(digit), "<n a='[" + (650 + digit) + "].'>", "25@10");
        }
        way.on(";", "<n a='A.'>", "")
                .on(Step.BLANKS, "<n a='A' .=''>", "25@9")
                .on(">", "<n a='A'> | \".>\"", "25@9")
                .on("\0", "<n a='A[65533].'>", "25@9 1@9")
                .on("\"'<=`", "<n a='A%c.'>", "25@9 11@9")
                .end("", "25@9 6@9")
                .others("<n a='A%c.'>", "25@9");
    }
}
