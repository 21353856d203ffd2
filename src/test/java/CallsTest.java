import java.util.Random;

/** An object's 512 calls: the last ones answer as the first ones, and no call throws. */
public final class CallsTest {
    private static final Checks CHECKS = new Checks();
    private static final int CALLS = 512;
    private static final String DEAREST = "<n a=" + "\0".repeat(394) + ">";

    public static void main(String[] args) {
        feedsToTheLast();
        runsToTheLast();
        runsLeaveNothing();
        writesToTheLast();
        takesTheOutToTheLast();
        refusesToTheLast();
        anyCalls();
        anotherObjectIsLeftAlone();
        CHECKS.end();
    }

    private static void feedsToTheLast() {
        MarkupTokens x = new MarkupTokens();
        for (int call = 1; call <= 508; call++) {
            int due = call <= 400 ? call : MarkupTokens.FULL;
            CHECKS.same("feed " + call, x.feed('a' + call % 7, 1), due);
        }
        CHECKS.same("call 509", x.run(), 1);
        CHECKS.same("call 510", x.at(0, 399), 'a' + 400 % 7);
        CHECKS.same("call 511", x.write(), 400);
        CHECKS.same("call 512", x.clear(), 400);
    }

    private static void runsToTheLast() {
        MarkupTokens x = new MarkupTokens();
        Markup.feed(x, DEAREST);
        for (int call = 51; call < CALLS; call++) {
            CHECKS.same("run() as call " + call, x.run(), 1);
        }
        CHECKS.same("faults() as the last call", x.faults(), 394);
    }

    /** No run leaves anything behind, so the last one has as much room as the first one. */
    private static void runsLeaveNothing() {
        String[] texts = {
            "<a b=cd>".repeat(50), "a<!>".repeat(100), "<b/>".repeat(100), "<!--c-->".repeat(50),
            "<!doctype d>".repeat(33), "\0".repeat(400), "&#0".repeat(133), "<a" + "/b".repeat(199)
        };
        for (String text : texts) {
            MarkupTokens first = Markup.read(text);
            MarkupTokens last = Markup.read(text);
            for (int call = 52; call < CALLS - 9; call++) {
                last.run();
            }
            String shown = Markup.visible(text.substring(0, 12)) + "..";
            int i = last.run() - 1;
            CHECKS.same("run() of " + shown, i, first.run() - 1);
            CHECKS.same("token(i, 0) of " + shown, last.token(i, 0), first.token(i, 0));
            CHECKS.same("token(i, 1) of " + shown, last.token(i, 1), first.token(i, 1));
            CHECKS.same("token(i, 3) of " + shown, last.token(i, 3), first.token(i, 3));
            CHECKS.same("at(i, 0) of " + shown, last.at(i, 0), first.at(i, 0));
            CHECKS.same("part(i, 0, 1, 1) of " + shown, last.part(i, 0, 1, 1), first.part(i, 0, 1, 1));
            CHECKS.same("faults() of " + shown, last.faults(), first.faults());
            CHECKS.same("write() of " + shown, last.write(), first.write());
            CHECKS.same("word(40) of " + shown, last.word(40), first.word(40));
        }
    }

    private static void writesToTheLast() {
        MarkupTokens x = new MarkupTokens();
        Markup.feed(x, DEAREST);
        x.run();
        for (int call = 52; call < CALLS; call++) {
            CHECKS.same("write() as call " + call, x.write(), 3160);
        }
        CHECKS.same("word(394) as the last call", x.word(394), Markup.bytes("65533;\">"));
    }

    private static void takesTheOutToTheLast() {
        MarkupTokens x = Markup.read("&<a\0 b='\"\0'>c</d><!--e--><!doctype f");
        int length = x.write();
        for (int round = 0; round < 160; round++) {
            CHECKS.same("again() of round " + round, x.again(), length);
            CHECKS.same("run() of round " + round, x.run(), 6);
            CHECKS.same("write() of round " + round, x.write(), length);
        }
    }

    private static void refusesToTheLast() {
        MarkupTokens x = Markup.read("<a");
        for (int call = 2; call < 509; call++) {
            CHECKS.same("feed of 9", x.feed(call, 9), MarkupTokens.BAD);
        }
        CHECKS.same("feed", x.feed('>', 1), 3);
        CHECKS.same("run()", x.run(), 1);
        CHECKS.same("clear()", x.clear(), 3);
    }

    private static void anyCalls() {
        Random random = new Random(512);
        for (int object = 0; object < 200; object++) {
            MarkupTokens x = new MarkupTokens();
            for (int call = 0; call < CALLS; call++) {
                anyCall(x, random);
            }
        }
    }

    private static int any(Random random) {
        return random.nextInt(4) == 0 ? random.nextInt() : random.nextInt(12) - 2;
    }

    /** An exception would end this test with an exit code that is not 0. */
    private static void anyCall(MarkupTokens x, Random random) {
        String pieces = "<<<>>>aab=\"'&#0;/!-- \0";
        StringBuilder eight = new StringBuilder();
        for (int k = 0; k < 8; k++) {
            eight.append(pieces.charAt(random.nextInt(pieces.length())));
        }
        switch (random.nextInt(16)) {
            case 0: x.clear(); break;
            case 1: x.again(); break;
            case 2: x.run(); break;
            case 3: x.token(any(random), any(random)); break;
            case 4: x.at(any(random), any(random)); break;
            case 5: x.size(any(random), any(random), any(random)); break;
            case 6: x.part(any(random), any(random), any(random), any(random)); break;
            case 7: x.faults(); break;
            case 8: x.fault(any(random), any(random)); break;
            case 9: x.write(); break;
            case 10: x.word(any(random)); break;
            default: x.feed(Markup.bytes(eight.toString()), any(random)); break;
        }
    }

    private static void anotherObjectIsLeftAlone() {
        MarkupTokens x = Markup.read("<a b></>");
        x.write();
        String before = Markup.state(x);
        MarkupTokens y = Markup.read("c</ d>&#0;");
        y.write();
        y.clear();
        CHECKS.same("state", Markup.state(x), before);
        CHECKS.same("clear()", x.clear(), 8);
    }
}
