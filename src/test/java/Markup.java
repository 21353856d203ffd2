/**
 * Feeds texts to an object and shows what it answers as strings that a test can compare, with few
 * calls: what an object answers behind its 512th one is free.
 */
final class Markup {
    private Markup() {
    }

    static MarkupTokens read(String text) {
        MarkupTokens x = new MarkupTokens();
        feed(x, text);
        x.run();
        return x;
    }

    /** Each character of the text is one byte. */
    static void feed(MarkupTokens x, String text) {
        for (int start = 0; start < text.length(); start += 8) {
            int n = Math.min(8, text.length() - start);
            x.feed(bytes(text.substring(start, start + n)), n);
        }
    }

    static long bytes(String upToEight) {
        long bytes = 0;
        for (int k = 0; k < upToEight.length(); k++) {
            bytes |= (upToEight.charAt(k) & 255L) << (8 * k);
        }
        return bytes;
    }

    /**
     * Tokens as "text", &lt;start name='value'/&gt;, &lt;/stop&gt;, {comment}, !doctype and !odd?, with a
     * bar between two of them; a character that ASCII does not show is its number in brackets.
     */
    static String tokens(MarkupTokens x) {
        StringBuilder shown = new StringBuilder();
        for (int i = 0; x.token(i, 0) != MarkupTokens.BAD; i++) {
            shown.append(i == 0 ? "" : " | ").append(token(x, i));
        }
        return shown.toString();
    }

    private static String token(MarkupTokens x, int i) {
        String own = own(x, i);
        String mark = x.token(i, 2) == 1 ? "/" : "";
        switch (x.token(i, 0)) {
            case MarkupTokens.TEXT:
                return "\"" + own + "\"" + mark + attributes(x, i);
            case MarkupTokens.START:
                return "<" + own + attributes(x, i) + mark + ">";
            case MarkupTokens.STOP:
                return "</" + own + attributes(x, i) + mark + ">";
            case MarkupTokens.COMMENT:
                return "{" + own + "}" + mark + attributes(x, i);
            case MarkupTokens.DOCTYPE:
                return "!" + own + (mark.isEmpty() ? "" : "?") + attributes(x, i);
            default:
                return "no kind " + x.token(i, 0);
        }
    }

    private static String own(MarkupTokens x, int i) {
        StringBuilder shown = new StringBuilder();
        int length = x.token(i, 1);
        for (int k = 0; k < length; k++) {
            shown.append(visible(x.at(i, k)));
        }
        return shown.toString();
    }

    private static String attributes(MarkupTokens x, int i) {
        StringBuilder shown = new StringBuilder();
        int count = x.token(i, 3);
        for (int a = 0; a < count; a++) {
            shown.append(' ').append(part(x, i, a, 0)).append("='").append(part(x, i, a, 1)).append("'");
        }
        return shown.toString();
    }

    private static String part(MarkupTokens x, int i, int a, int what) {
        StringBuilder shown = new StringBuilder();
        int length = x.size(i, a, what);
        for (int k = 0; k < length; k++) {
            shown.append(visible(x.part(i, a, what, k)));
        }
        return shown.toString();
    }

    /** Faults as code@place, in the order in which they were told. */
    static String faults(MarkupTokens x) {
        StringBuilder shown = new StringBuilder();
        int count = x.faults();
        for (int k = 0; k < count; k++) {
            shown.append(k == 0 ? "" : " ").append(x.fault(k, 0)).append('@').append(x.fault(k, 1));
        }
        return shown.toString();
    }

    /** The out of the latest write(), which this calls once more for its length. */
    static String out(MarkupTokens x) {
        int length = x.write();
        StringBuilder shown = new StringBuilder();
        for (int i = 0; 8 * i < length; i++) {
            long bytes = x.word(i);
            for (int k = 0; k < 8 && 8 * i + k < length; k++) {
                shown.append((char) (bytes >> (8 * k) & 255));
            }
        }
        return shown.toString();
    }

    /** All that is told without a call that changes something: tokens, faults, and how the out begins. */
    static String state(MarkupTokens x) {
        StringBuilder shown = new StringBuilder();
        shown.append(tokens(x)).append(" with ").append(faults(x)).append(" and");
        for (int i = 0; i < 8; i++) {
            shown.append(' ').append(Long.toHexString(x.word(i)));
        }
        return shown.toString();
    }

    static String visible(String text) {
        StringBuilder shown = new StringBuilder();
        for (int k = 0; k < text.length(); k++) {
            shown.append(visible(text.charAt(k)));
        }
        return shown.toString();
    }

    static String visible(int c) {
        return c >= 32 && c <= 126 ? String.valueOf((char) c) : "[" + c + "]";
    }
}
