import java.io.IOException;
import java.lang.reflect.Field;
import java.lang.reflect.Method;
import java.lang.reflect.Modifier;
import java.nio.file.DirectoryStream;
import java.nio.file.Files;
import java.nio.file.Path;
import java.util.List;

/** What README.md says of the class is true, and nothing of the face, the codes or the tests is missing. */
public final class ReadmeTest {
    private static final Checks CHECKS = new Checks();
    private static final int LAST_CODE = 32;

    private static List<String> lines;
    private static int line = 0;

    public static void main(String[] args) throws IOException, IllegalAccessException {
        lines = Files.readAllLines(Path.of("README.md"));
        example();
        constants();
        methods();
        codes();
        tests();
        CHECKS.end();
    }

    private static void example() {
        MarkupTokens x = new MarkupTokens();
        String text = "<P id=a>x&lty";
        said("String text = \"" + text + "\";");
        for (int k = 0; k < text.length(); k++) {
            x.feed(text.charAt(k), 1);
        }
        said("x.run();", x.run());
        said("x.token(0, 0);", x.token(0, 0));
        said("x.token(0, 1);", x.token(0, 1));
        said("x.at(0, 0);", x.at(0, 0));
        said("x.token(0, 3);", x.token(0, 3));
        said("x.size(0, 0, 0);", x.size(0, 0, 0));
        said("x.part(0, 0, 1, 0);", x.part(0, 0, 1, 0));
        said("x.at(1, 1);", x.at(1, 1));
        said("x.faults();", x.faults());
        said("x.fault(0, 0);", x.fault(0, 0));
        said("x.fault(0, 1);", x.fault(0, 1));
        said("x.write();", x.write());
        said("x.word(1);", x.word(1));
        said("x.again();", x.again());
        said("x.run();", x.run());
        said("x.faults();", x.faults());
        said("x.clear();", x.clear());
        CHECKS.same("what stands behind the example", line < lines.size() ? lines.get(line) : "", "```");
    }

    /** The next line of the example that has a number as its answer is that call with that answer. */
    private static void said(String call, long answer) {
        String found = nextLine();
        CHECKS.same("the call in README.md", found.split(" +// ")[0], call);
        CHECKS.same("the answer in README.md to " + call, found.replaceAll(".*// (-?\\d+):.*", "$1"), "" + answer);
    }

    /** The line stands in the README, behind those that were looked at before. */
    private static void said(String whole) {
        while (line < lines.size() && !lines.get(line).equals(whole)) {
            line++;
        }
        CHECKS.same("README.md has " + whole, line < lines.size(), true);
        line++;
    }

    private static String nextLine() {
        while (line < lines.size() && !lines.get(line).matches("x\\..*// -?\\d+: .*")) {
            line++;
        }
        line++;
        return line <= lines.size() ? lines.get(line - 1) : "";
    }

    private static void row(String beginning) {
        long rows = lines.stream().filter(row -> row.startsWith(beginning)).count();
        CHECKS.same("rows of README.md that begin with " + beginning, rows, 1L);
    }

    private static void constants() throws IllegalAccessException {
        for (Field field : MarkupTokens.class.getFields()) {
            row("| `" + field.getName() + "` | " + field.getInt(null) + " | ");
        }
    }

    private static void methods() {
        row("| `MarkupTokens()` | ");
        for (Method method : MarkupTokens.class.getDeclaredMethods()) {
            if (Modifier.isPublic(method.getModifiers())) {
                row("| `" + method.getName() + "(");
            }
        }
    }

    private static void codes() {
        for (int code = 1; code <= LAST_CODE; code++) {
            row("| " + code + " | ");
        }
    }

    private static void tests() throws IOException {
        String whole = String.join("\n", lines);
        try (DirectoryStream<Path> files = Files.newDirectoryStream(Path.of("src/test/java"))) {
            for (Path file : files) {
                String name = file.getFileName().toString().replace(".java", "");
                CHECKS.same("README.md names " + name, whole.contains("`" + name + "`"), true);
            }
        }
    }
}
