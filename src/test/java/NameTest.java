import java.util.ArrayList;
import java.util.List;
import java.util.TreeMap;

/** References by name: each name with and without ;, cut short, in other letters, and what follows. */
public final class NameTest {
    private static final Checks CHECKS = new Checks();

    private static final String[] FREE = {
        "amp", "38", "AMP", "38", "lt", "60", "LT", "60", "gt", "62", "GT", "62", "quot", "34",
        "QUOT", "34", "nbsp", "160", "copy", "169", "COPY", "169", "reg", "174", "REG", "174",
        "not", "172", "shy", "173", "yen", "165", "deg", "176", "times", "215", "para", "182",
        "sup2", "178", "frac12", "189"
    };
    private static final String[] CLOSED = {
        "apos", "39", "num", "35", "notin", "8713", "notni", "8716", "timesb", "8864",
        "copysr", "8471", "hellip", "8230", "euro", "8364", "ne", "8800", "le", "8804", "par", "8741"
    };
    private static final String[] FOLLOWERS = {
        "", ";", ";;", "x", "x;", "Z", "0", "9;", "=", " ", "&", "&amp;", "b;", "sr;", "in;", "ni;", "2;", "12;"
    };

    /** Names as they may stand behind a &, with their ; and, if they are free, without. */
    private static final TreeMap<String, String> STANDING = standing();

    public static void main(String[] args) {
        withSemicolon();
        withoutSemicolon();
        closedWithoutSemicolon();
        longestName();
        cutShort();
        inOtherLetters();
        withLettersBefore();
        CHECKS.end();
    }

    private static String shown(String number) {
        return Markup.visible(Integer.parseInt(number));
    }

    private static void withSemicolon() {
        for (String[] names : new String[][] {FREE, CLOSED}) {
            for (int k = 0; k < names.length; k += 2) {
                String reference = "&" + names[k] + ";";
                String given = shown(names[k + 1]);
                CHECKS.cut(reference, "\"" + given + "\"", "");
                CHECKS.cut(reference + "x", "\"" + given + "x\"", "");
                CHECKS.cut("<n a='" + reference + "x'>", "<n a='" + given + "x'>", "");
                CHECKS.cut("<n a=\"" + reference + "=\">", "<n a='" + given + "='>", "");
                CHECKS.cut("<n a=" + reference + "1>", "<n a='" + given + "1'>", "");
            }
        }
    }

    private static void withoutSemicolon() {
        for (int k = 0; k < FREE.length; k += 2) {
            String reference = "&" + FREE[k];
            String given = shown(FREE[k + 1]);
            int place = reference.length();
            CHECKS.cut(reference, "\"" + given + "\"", "25@" + place);
            CHECKS.cut(reference + "x", "\"" + given + "x\"", "25@" + place);
            CHECKS.cut(reference + "=", "\"" + given + "=\"", "25@" + place);
            CHECKS.cut("<n a='" + reference + "'>", "<n a='" + given + "'>", "25@" + (place + 6));
            CHECKS.cut("<n a='" + reference + "-'>", "<n a='" + given + "-'>", "25@" + (place + 6));
            CHECKS.cut("<n a='" + reference + "x'>", "<n a='" + reference + "x'>", "");
            CHECKS.cut("<n a='" + reference + "9'>", "<n a='" + reference + "9'>", "");
            CHECKS.cut("<n a='" + reference + "='>", "<n a='" + reference + "='>", "");
            CHECKS.cut("<n a=" + reference + ">", "<n a='" + given + "'>", "25@" + (place + 5));
            CHECKS.cut("<n a=" + reference + "x>", "<n a='" + reference + "x'>", "");
        }
    }

    /** Without their ; these are no names, but a shorter free name may stand there. */
    private static void closedWithoutSemicolon() {
        for (String name : new String[] {"apos", "num", "hellip", "euro", "ne", "le", "par"}) {
            CHECKS.cut("&" + name, "\"&" + name + "\"", "");
            CHECKS.cut("&" + name + ".", "\"&" + name + ".\"", "");
            CHECKS.cut("&" + name + "x;", "\"&" + name + "x;\"", "26@" + (name.length() + 2));
            CHECKS.cut("<n a='&" + name + "'>", "<n a='&" + name + "'>", "");
        }
        CHECKS.cut("&notin", "\"[172]in\"", "25@4");
        CHECKS.cut("&notni", "\"[172]ni\"", "25@4");
        CHECKS.cut("&timesb", "\"[215]b\"", "25@6");
        CHECKS.cut("&copysr", "\"[169]sr\"", "25@5");
        CHECKS.cut("<n a='&notin'>", "<n a='&notin'>", "");
        CHECKS.cut("<n a=&timesb>", "<n a='&timesb'>", "");
    }

    private static void longestName() {
        CHECKS.cut("&not;in;", "\"[172]in;\"", "");
        CHECKS.cut("&notin;", "\"[8713]\"", "");
        CHECKS.cut("&para", "\"[182]\"", "25@5");
        CHECKS.cut("&par;a", "\"[8741]a\"", "");
        CHECKS.cut("&copysr;", "\"[8471]\"", "");
        CHECKS.cut("&copys;", "\"[169]s;\"", "25@5");
    }

    private static void cutShort() {
        for (String name : names()) {
            for (int length = 1; length <= name.length(); length++) {
                followed(name.substring(0, length));
            }
        }
    }

    private static void inOtherLetters() {
        for (String name : names()) {
            followed(name.toUpperCase());
            for (int k = 0; k < name.length(); k++) {
                char c = name.charAt(k);
                char other = Character.isUpperCase(c) ? Character.toLowerCase(c) : Character.toUpperCase(c);
                followed(name.substring(0, k) + other + name.substring(k + 1));
                followed(name.substring(0, k) + (char) (c + 1) + name.substring(k + 1));
            }
        }
    }

    private static void withLettersBefore() {
        for (String name : names()) {
            followed("x" + name);
            followed("1" + name);
        }
    }

    private static List<String> names() {
        List<String> all = new ArrayList<>();
        for (int k = 0; k < FREE.length; k += 2) {
            all.add(FREE[k]);
        }
        for (int k = 0; k < CLOSED.length; k += 2) {
            all.add(CLOSED[k]);
        }
        return all;
    }

    private static TreeMap<String, String> standing() {
        TreeMap<String, String> standing = new TreeMap<>();
        for (int k = 0; k < FREE.length; k += 2) {
            standing.put(FREE[k], FREE[k + 1]);
            standing.put(FREE[k] + ";", FREE[k + 1]);
        }
        for (int k = 0; k < CLOSED.length; k += 2) {
            standing.put(CLOSED[k] + ";", CLOSED[k + 1]);
        }
        return standing;
    }

    private static void followed(String letters) {
        for (String follower : FOLLOWERS) {
            String text = letters + follower;
            inText(text);
            inValue(text);
        }
    }

    private static void inText(String behind) {
        String name = longest(behind);
        String rest = behind.substring(name.length());
        int place = 1 + name.length();
        if (name.isEmpty()) {
            int run = lettersAndDigits(behind);
            String fault = run > 0 && behind.startsWith(";", run) ? "26@" + (1 + run) : "";
            CHECKS.cut("&" + behind, "\"&" + plain(behind) + "\"", fault);
            return;
        }
        String given = shown(STANDING.get(name));
        CHECKS.cut("&" + behind, "\"" + given + plain(rest) + "\"", name.endsWith(";") ? "" : "25@" + place);
    }

    private static void inValue(String behind) {
        String name = longest(behind);
        String rest = behind.substring(name.length());
        String text = "<n a='&" + behind + "'>";
        int run = lettersAndDigits(behind);
        if (name.isEmpty()) {
            String fault = run > 0 && behind.startsWith(";", run) ? "26@" + (7 + run) : "";
            CHECKS.cut(text, "<n a='&" + plain(behind) + "'>", fault);
        } else if (name.endsWith(";")) {
            CHECKS.cut(text, "<n a='" + shown(STANDING.get(name)) + plain(rest) + "'>", "");
        } else if (lettersAndDigits(rest) > 0 || rest.startsWith("=")) {
            CHECKS.cut(text, "<n a='&" + name + plain(rest) + "'>", "");
        } else {
            String given = shown(STANDING.get(name));
            CHECKS.cut(text, "<n a='" + given + plain(rest) + "'>", "25@" + (7 + name.length()));
        }
    }

    /** Of the followers &amp; alone is a reference of its own. */
    private static String plain(String rest) {
        return rest.replace("&amp;", "&");
    }

    private static String longest(String behind) {
        String longest = "";
        for (String name : STANDING.keySet()) {
            if (behind.startsWith(name) && name.length() > longest.length()) {
                longest = name;
            }
        }
        return longest;
    }

    private static int lettersAndDigits(String behind) {
        int run = 0;
        while (run < behind.length() && (Step.LETTERS + Step.DIGITS).indexOf(behind.charAt(run)) >= 0) {
            run++;
        }
        return run;
    }
}
