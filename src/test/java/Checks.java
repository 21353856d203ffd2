import java.util.Objects;

/** Counts the answers of one test that are not the ones that are due. */
final class Checks {
    private int wrong = 0;

    void same(String what, Object got, Object due) {
        if (!Objects.equals(got, due)) {
            wrong++;
            System.out.println(what + " answered " + got + ", due is " + due);
        }
    }

    /** Cuts the text anew and compares its tokens and faults, as Markup shows them. */
    void cut(String text, String tokens, String faults) {
        MarkupTokens x = Markup.read(text);
        String shown = Markup.visible(text);
        same("tokens of " + shown, Markup.tokens(x), tokens);
        same("faults of " + shown, Markup.faults(x), faults);
    }

    /** Cuts the text anew and compares what is written of it. */
    void written(String text, String out) {
        MarkupTokens x = Markup.read(text);
        same("length of what is written of " + Markup.visible(text), x.write(), out.length());
        same("what is written of " + Markup.visible(text), Markup.visible(Markup.out(x)), Markup.visible(out));
    }

    void end() {
        System.out.println(wrong == 0 ? "all answers are as due" : wrong + " answers are not as due");
        if (wrong != 0) {
            System.exit(1);
        }
    }
}
