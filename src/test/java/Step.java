/**
 * One way of the document, reached by a beginning of a text: each of the 256 characters is put
 * there, with an end of the text behind it, or nothing is (END). In what is due, %c is that
 * character and %l is it lowered, as Markup shows them.
 */
final class Step {
    static final String BLANKS = "\t\n\f\r ";
    static final String DIGITS = "0123456789";
    static final String LETTERS = "ABCDEFGHIJKLMNOPQRSTUVWXYZabcdefghijklmnopqrstuvwxyz";
    static final String QUOTES_AND_LESS = "\"'<";

    private final Checks checks;
    private final String before;
    private final String behind;
    private final boolean[] seen = new boolean[256];

    Step(Checks checks, String before, String behind) {
        this.checks = checks;
        this.before = before;
        this.behind = behind;
    }

    Step on(String characters, String tokens, String faults) {
        for (int k = 0; k < characters.length(); k++) {
            put(characters.charAt(k), tokens, faults);
        }
        return this;
    }

    Step end(String tokens, String faults) {
        checks.cut(before, tokens, faults);
        return this;
    }

    /** All characters that were not named. */
    void others(String tokens, String faults) {
        for (char c = 0; c < seen.length; c++) {
            if (!seen[c]) {
                put(c, tokens, faults);
            }
        }
    }

    private void put(char c, String tokens, String faults) {
        if (seen[c]) {
            throw new IllegalStateException("named twice: " + (int) c);
        }
        seen[c] = true;
        int read = c == 13 ? 10 : c;
        int lowered = c >= 'A' && c <= 'Z' ? c + 32 : read;
        String due = tokens.replace("%c", Markup.visible(read)).replace("%l", Markup.visible(lowered));
        checks.cut(before + c + behind, due, faults);
    }
}
