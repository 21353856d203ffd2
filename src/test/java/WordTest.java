/** Promise 13: word. */
public final class WordTest {
    private static final Checks CHECKS = new Checks();

    public static void main(String[] args) {
        hasTheFirstByteLowest();
        hasHighBytes();
        isZeroBehindTheEnd();
        isZeroWhenThereAreNone();
        isZeroForEachIndexFarAway();
        isZeroBeforeAWrite();
        hasTheLatestWriteAlone();
        hasTheLastBytesOfALongOut();
        CHECKS.end();
    }

    private static MarkupTokens written(String text) {
        MarkupTokens x = Markup.read(text);
        x.write();
        return x;
    }

    private static void hasTheFirstByteLowest() {
        MarkupTokens x = written("abcdefghijklmnop");
        CHECKS.same("word(0)", x.word(0), 0x6867666564636261L);
        CHECKS.same("word(1)", x.word(1), 0x706f6e6d6c6b6a69L);
        CHECKS.same("word(2)", x.word(2), 0L);
    }

    private static void hasHighBytes() {
        CHECKS.same("word(0) of 255s", written("\u00ff".repeat(8)).word(0), -1L);
        CHECKS.same("word(0) of one 255", written("\u00ff").word(0), 255L);
        CHECKS.same("word(0) with a 128", written("a\u0080b").word(0), 0x628061L);
        CHECKS.same("word(0) with 128 as the highest", written("aaaaaaa\u0080").word(0), 0x8061616161616161L);
        CHECKS.same("word(0) with 0s", written("a\0b").word(0), 0x620061L);
    }

    private static void isZeroBehindTheEnd() {
        for (int length = 1; length <= 17; length++) {
            MarkupTokens x = written("\u00ff".repeat(length));
            for (int i = 0; i < 4; i++) {
                int bytes = Math.max(0, Math.min(8, length - 8 * i));
                long due = bytes == 8 ? -1L : (1L << (8 * bytes)) - 1;
                CHECKS.same("word(" + i + ") of " + length, x.word(i), due);
            }
        }
    }

    private static void isZeroWhenThereAreNone() {
        CHECKS.same("word(0) of a new object", new MarkupTokens().word(0), 0L);
        CHECKS.same("word(0) of an empty out", written("").word(0), 0L);
        CHECKS.same("word(0) of no tokens", written("<a").word(0), 0L);
        MarkupTokens x = written("abcdefgh");
        CHECKS.same("word(1)", x.word(1), 0L);
        CHECKS.same("word(-1)", x.word(-1), 0L);
    }

    /** Eight times some of these wraps around to a place inside the out. */
    private static void isZeroForEachIndexFarAway() {
        MarkupTokens x = written("\u00ff".repeat(400));
        CHECKS.same("word(49)", x.word(49), -1L);
        CHECKS.same("word(50)", x.word(50), 0L);
        for (int bit = 6; bit < 32; bit++) {
            for (int near = -2; near <= 2; near++) {
                int i = (1 << bit) + near;
                CHECKS.same("word(" + i + ")", x.word(i), 0L);
                CHECKS.same("word(" + -i + ")", x.word(-i), 0L);
            }
        }
    }

    private static void isZeroBeforeAWrite() {
        MarkupTokens x = Markup.read("abc");
        CHECKS.same("word(0) before write()", x.word(0), 0L);
        x.write();
        CHECKS.same("word(0)", x.word(0), 0x636261L);
    }

    private static void hasTheLatestWriteAlone() {
        MarkupTokens x = written("abcdefghijk");
        x.clear();
        Markup.feed(x, "x");
        x.run();
        CHECKS.same("word(0) until the next write()", x.word(0), 0x6867666564636261L);
        CHECKS.same("word(1) until the next write()", x.word(1), 0x6b6a69L);
        x.write();
        CHECKS.same("word(0) of less", x.word(0), 0x78L);
        CHECKS.same("word(1) of less", x.word(1), 0L);
    }

    private static void hasTheLastBytesOfALongOut() {
        MarkupTokens text = Markup.read("&".repeat(400));
        CHECKS.same("write() of 400 &", text.write(), 2000);
        CHECKS.same("word(249)", text.word(249), Markup.bytes("mp;&amp;"));
        CHECKS.same("word(250)", text.word(250), 0L);
        MarkupTokens value = Markup.read("<a b=" + "\0".repeat(394) + ">");
        CHECKS.same("write() of many 0s", value.write(), 3160);
        CHECKS.same("word(394)", value.word(394), Markup.bytes("65533;\">"));
        CHECKS.same("word(395)", value.word(395), 0L);
    }
}
