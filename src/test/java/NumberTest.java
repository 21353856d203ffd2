import java.math.BigInteger;

/** References by number: the edges of each range of the document, and every number there is. */
public final class NumberTest {
    private static final Checks CHECKS = new Checks();
    private static final int UNKNOWN = 65533;
    private static final int LAST = 1114111;
    private static final int NONE = 0;
    private static final int[] REPLACED = {
        128, 8364, 130, 8218, 131, 402, 132, 8222, 133, 8230, 134, 8224, 135, 8225, 136, 710,
        137, 8240, 138, 352, 139, 8249, 140, 338, 142, 381, 145, 8216, 146, 8217, 147, 8220,
        148, 8221, 149, 8226, 150, 8211, 151, 8212, 152, 732, 153, 8482, 154, 353, 155, 8250,
        156, 339, 158, 382, 159, 376
    };

    public static void main(String[] args) {
        zero();
        aboveTheLast();
        wrapAround();
        surrogates();
        noCharacters();
        lastTwoOfEachSixteenBits();
        controls();
        replacedControls();
        others();
        manyDigits();
        everyNumber();
        CHECKS.end();
    }

    private static void number(long number, int fault, int given) {
        number(BigInteger.valueOf(number), fault, given);
    }

    /** In both bases, with ; and without, in the text and in both kinds of values. */
    private static void number(BigInteger number, int fault, int given) {
        String hex = number.toString(16);
        String[] forms = {
            number.toString(), "000" + number, "x" + hex, "X" + hex.toUpperCase(), "x0" + hex, "X00" + hex
        };
        for (String form : forms) {
            String reference = "&#" + form;
            String shown = Markup.visible(given);
            int place = reference.length();
            CHECKS.cut(reference + ";", "\"" + shown + "\"", faults("", fault, place + 1));
            CHECKS.cut(reference + ";;", "\"" + shown + ";\"", faults("", fault, place + 1));
            CHECKS.cut(reference, "\"" + shown + "\"", faults("25", fault, place));
            CHECKS.cut(reference + "g", "\"" + shown + "g\"", faults("25", fault, place));
            CHECKS.cut("<n a='" + reference + ";'>", "<n a='" + shown + "'>", faults("", fault, place + 7));
            CHECKS.cut("<n a='" + reference + "'>", "<n a='" + shown + "'>", faults("25", fault, place + 6));
            CHECKS.cut("<n a=" + reference + ";>", "<n a='" + shown + "'>", faults("", fault, place + 6));
            CHECKS.cut("<n a=" + reference + ">", "<n a='" + shown + "'>", faults("25", fault, place + 5));
        }
    }

    private static String faults(String first, int fault, int place) {
        String told = first.isEmpty() ? "" : first + "@" + place;
        if (fault == NONE) {
            return told;
        }
        return (told.isEmpty() ? "" : told + " ") + fault + "@" + place;
    }

    private static void zero() {
        number(0, 28, UNKNOWN);
        number(1, 32, 1);
    }

    private static void aboveTheLast() {
        number(LAST - 2, NONE, LAST - 2);
        number(LAST, 31, LAST);
        number(LAST + 1, 29, UNKNOWN);
        number(LAST + 2, 29, UNKNOWN);
        number(10 * LAST, 29, UNKNOWN);
    }

    /** Numbers whose lowest bits would be a good character. */
    private static void wrapAround() {
        for (int bits = 21; bits <= 130; bits++) {
            number(BigInteger.ONE.shiftLeft(bits).add(BigInteger.valueOf('A')), 29, UNKNOWN);
        }
        number(Integer.MAX_VALUE, 29, UNKNOWN);
        number(Integer.MAX_VALUE + 1L, 29, UNKNOWN);
        number(2L * Integer.MAX_VALUE + 2, 29, UNKNOWN);
        number(Long.MAX_VALUE, 29, UNKNOWN);
        number(BigInteger.ONE.shiftLeft(63), 29, UNKNOWN);
        number(BigInteger.ONE.shiftLeft(64), 29, UNKNOWN);
    }

    private static void surrogates() {
        number(55295, NONE, 55295);
        number(55296, 30, UNKNOWN);
        number(55297, 30, UNKNOWN);
        number(57342, 30, UNKNOWN);
        number(57343, 30, UNKNOWN);
        number(57344, NONE, 57344);
    }

    private static void noCharacters() {
        number(64975, NONE, 64975);
        number(64976, 31, 64976);
        number(64977, 31, 64977);
        number(65006, 31, 65006);
        number(65007, 31, 65007);
        number(65008, NONE, 65008);
        number(65536 + 64976, NONE, 65536 + 64976);
    }

    private static void lastTwoOfEachSixteenBits() {
        for (int high = 0; high <= LAST; high += 65536) {
            number(high + 65533, NONE, high + 65533);
            number(high + 65534, 31, high + 65534);
            number(high + 65535, 31, high + 65535);
        }
        number(65536, NONE, 65536);
        number(131072, NONE, 131072);
    }

    private static void controls() {
        int[] told = {1, 8, 11, 13, 14, 31, 127, 129, 141, 143, 144, 157};
        for (int number : told) {
            number(number, 32, number);
        }
        int[] good = {9, 10, 12, 32, 33, 126, 160, 161};
        for (int number : good) {
            number(number, NONE, number);
        }
    }

    private static void replacedControls() {
        for (int k = 0; k < REPLACED.length; k += 2) {
            number(REPLACED[k], 32, REPLACED[k + 1]);
        }
    }

    private static void others() {
        int[] good = {34, 38, 39, 60, 62, 96, 255, 256, 338, 8364, 65533, 999999, 1000000};
        for (int number : good) {
            number(number, NONE, number);
        }
    }

    /** All digits are read, up to the text's limit. */
    private static void manyDigits() {
        CHECKS.cut("&#" + "9".repeat(398), "\"[65533]\"", "25@400 29@400");
        CHECKS.cut("&#" + "9".repeat(397) + ";", "\"[65533]\"", "29@400");
        CHECKS.cut("&#x" + "f".repeat(397), "\"[65533]\"", "25@400 29@400");
        CHECKS.cut("&#" + "0".repeat(398), "\"[65533]\"", "25@400 28@400");
        CHECKS.cut("&#" + "0".repeat(395) + "65;", "\"A\"", "");
        CHECKS.cut("&#x" + "0".repeat(394) + "4a;", "\"J\"", "");
    }

    private static void everyNumber() {
        for (int first = 0; first <= LAST + 40; first += 40) {
            StringBuilder text = new StringBuilder();
            StringBuilder tokens = new StringBuilder();
            StringBuilder faults = new StringBuilder();
            for (int number = first; number < first + 40; number++) {
                text.append("&#").append(number).append(';');
                tokens.append(Markup.visible(given(number)));
                if (fault(number) != NONE) {
                    faults.append(faults.length() == 0 ? "" : " ").append(faults("", fault(number), text.length()));
                }
            }
            CHECKS.cut(text.toString(), "\"" + tokens + "\"", faults.toString());
        }
    }

    private static int fault(int number) {
        if (number == 0) {
            return 28;
        }
        if (number > LAST) {
            return 29;
        }
        if (number >= 55296 && number <= 57343) {
            return 30;
        }
        if (number >= 64976 && number <= 65007 || number % 65536 == 65534 || number % 65536 == 65535) {
            return 31;
        }
        boolean blank = number == 9 || number == 10 || number == 12;
        return number < 32 && !blank || number >= 127 && number <= 159 ? 32 : NONE;
    }

    private static int given(int number) {
        if (fault(number) >= 28 && fault(number) <= 30) {
            return UNKNOWN;
        }
        for (int k = 0; k < REPLACED.length; k += 2) {
            if (REPLACED[k] == number) {
                return REPLACED[k + 1];
            }
        }
        return number;
    }
}
