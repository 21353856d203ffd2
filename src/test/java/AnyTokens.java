/** A text with a token of each kind, and arguments that are never right for it. */
final class AnyTokens {
    static final String TEXT = "t&euro;<ab cd=efg h/><!--xyz--></s i/><!doctype D e><!doctype>";
    static final int COUNT = 6;
    static final int[] FAR = {
        -1, -2, -400, 100, 255, 256, 399, 400, 401, 1 << 16, 1 << 29, 1 << 30,
        Integer.MIN_VALUE, Integer.MIN_VALUE + 1, Integer.MAX_VALUE - 1, Integer.MAX_VALUE
    };

    private AnyTokens() {
    }
}
