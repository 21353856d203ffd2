/** Promise 2: feed. */
public final class FeedTest {
    private static final Checks CHECKS = new Checks();
    private static final int BAD = MarkupTokens.BAD;
    private static final int FULL = MarkupTokens.FULL;
    private static final int LIMIT = 400;
    private static final int[] WRONG = {
        0, -1, -8, 9, 10, 16, 64, 256, 257, 400, 401, Integer.MIN_VALUE, Integer.MIN_VALUE + 1,
        Integer.MAX_VALUE - 400, Integer.MAX_VALUE - 1, Integer.MAX_VALUE
    };

    public static void main(String[] args) {
        takesTheLowestBytes();
        takesTheLowestFirst();
        takesEveryByte();
        comesBehindTheText();
        refusesAWrongCount();
        refusesAWrongCountOfAFullText();
        isFullBeyondTheLimit();
        changesNothingWhenFull();
        takesWhatStillFits();
        leavesTokensAlone();
        CHECKS.end();
    }

    private static MarkupTokens ofLength(int length) {
        MarkupTokens x = new MarkupTokens();
        Markup.feed(x, "a".repeat(length));
        return x;
    }

    private static void takesTheLowestBytes() {
        for (int n = 1; n <= 8; n++) {
            MarkupTokens x = new MarkupTokens();
            CHECKS.same("feed of " + n, x.feed(0x6867666564636261L, n), n);
            CHECKS.same("run() of " + n, x.run(), 1);
            CHECKS.same("tokens of " + n, Markup.tokens(x), "\"" + "abcdefgh".substring(0, n) + "\"");
            CHECKS.same("clear() of " + n, x.clear(), n);
        }
    }

    private static void takesTheLowestFirst() {
        MarkupTokens x = new MarkupTokens();
        CHECKS.same("feed of <a>", x.feed(0x3e613cL, 3), 3);
        x.run();
        CHECKS.same("tokens", Markup.tokens(x), "<a>");
    }

    private static void takesEveryByte() {
        for (int n = 1; n <= 8; n++) {
            MarkupTokens x = new MarkupTokens();
            x.feed(-1L, n);
            x.run();
            CHECKS.same("tokens of 255s", Markup.tokens(x), "\"" + "[255]".repeat(n) + "\"");
            MarkupTokens low = new MarkupTokens();
            low.feed(0x8080808080808080L, n);
            low.run();
            CHECKS.same("tokens of 128s", Markup.tokens(low), "\"" + "[128]".repeat(n) + "\"");
            MarkupTokens zero = new MarkupTokens();
            CHECKS.same("feed of 0s", zero.feed(0L, n), n);
            zero.run();
            CHECKS.same("tokens of 0s", Markup.tokens(zero), "\"" + "[0]".repeat(n) + "\"");
        }
    }

    private static void comesBehindTheText() {
        MarkupTokens x = new MarkupTokens();
        CHECKS.same("feed of 3", x.feed(0x6867666564636261L, 3), 3);
        CHECKS.same("feed of 1", x.feed(0x7aL, 1), 4);
        CHECKS.same("feed of 8", x.feed(0x6867666564636261L, 8), 12);
        x.run();
        CHECKS.same("tokens", Markup.tokens(x), "\"abczabcdefgh\"");
        CHECKS.same("feed behind a run", x.feed(0x79L, 1), 13);
        x.run();
        CHECKS.same("tokens behind a run", Markup.tokens(x), "\"abczabcdefghy\"");
    }

    private static void refusesAWrongCount() {
        for (int n : WRONG) {
            MarkupTokens x = ofLength(3);
            CHECKS.same("feed of " + n, x.feed(0x62L, n), BAD);
            x.run();
            CHECKS.same("tokens behind a feed of " + n, Markup.tokens(x), "\"aaa\"");
            CHECKS.same("clear() behind a feed of " + n, x.clear(), 3);
            CHECKS.same("feed of " + n + " to an empty text", x.feed(0x62L, n), BAD);
            CHECKS.same("feed behind it", x.feed(0x62L, 1), 1);
        }
    }

    private static void refusesAWrongCountOfAFullText() {
        for (int n : WRONG) {
            MarkupTokens x = ofLength(LIMIT);
            CHECKS.same("feed of " + n + " to a full text", x.feed(0x62L, n), BAD);
            CHECKS.same("clear()", x.clear(), LIMIT);
        }
    }

    private static void isFullBeyondTheLimit() {
        for (int room = 0; room <= 9; room++) {
            for (int n = 1; n <= 8; n++) {
                MarkupTokens x = ofLength(LIMIT - room);
                int due = n > room ? FULL : LIMIT - room + n;
                CHECKS.same("feed of " + n + " where " + room + " fit", x.feed(0x6262626262626262L, n), due);
                CHECKS.same("clear()", x.clear(), due == FULL ? LIMIT - room : due);
            }
        }
    }

    private static void changesNothingWhenFull() {
        for (int room = 0; room < 8; room++) {
            MarkupTokens x = ofLength(LIMIT - room);
            CHECKS.same("feed where " + room + " fit", x.feed(0x6262626262626262L, 8), FULL);
            CHECKS.same("run()", x.run(), 1);
            CHECKS.same("tokens", Markup.tokens(x), "\"" + "a".repeat(LIMIT - room) + "\"");
        }
    }

    private static void takesWhatStillFits() {
        for (int room = 1; room < 8; room++) {
            MarkupTokens x = ofLength(LIMIT - room);
            CHECKS.same("feed of too many", x.feed(0x6262626262626262L, room + 1), FULL);
            CHECKS.same("feed of what fits", x.feed(0x6363636363636363L, room), LIMIT);
            CHECKS.same("feed of one more", x.feed(0x64L, 1), FULL);
            x.run();
            CHECKS.same("token(0, 1)", x.token(0, 1), LIMIT);
            CHECKS.same("the last before", x.at(0, LIMIT - room - 1), (int) 'a');
            CHECKS.same("the first of them", x.at(0, LIMIT - room), (int) 'c');
            CHECKS.same("the last of them", x.at(0, LIMIT - 1), (int) 'c');
        }
    }

    private static void leavesTokensAlone() {
        MarkupTokens x = Markup.read("a<b c=d></>");
        x.write();
        String before = Markup.state(x);
        x.feed(0x65L, 1);
        CHECKS.same("state behind a feed", Markup.state(x), before);
        x.feed(0x65L, 0);
        CHECKS.same("state behind a BAD feed", Markup.state(x), before);
    }
}
