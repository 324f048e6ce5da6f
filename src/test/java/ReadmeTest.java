import java.io.IOException;
import java.nio.file.Files;
import java.nio.file.Path;
import java.util.List;

/** The example of README.md: its calls answer what is said behind them. */
public final class ReadmeTest {
    private static List<String> lines;
    private static int next;

    public static void main(String[] args) throws IOException {
        lines = Files.readAllLines(Path.of("README.md"));
        next = lines.indexOf("```java") + 1;
        KeptItems x = new KeptItems();
        shown("KeptItems x = new KeptItems();");
        shown("for (char c : \"a=1;b=a+2*3;\".toCharArray()) {");
        shown("    x.type(c);");
        shown("}");
        Check.type(x, "a=1;b=a+2*3;");
        answers("x.edit(0, 0);", Check.edit(x, 0, 0));
        answers("x.items();", x.items());
        answers("x.value(1);", Check.value(x, 1));
        answers("x.number(1);", x.number(1));
        answers("x.token(2);", Check.token(x, 2));
        shown("");
        shown("x.type('x');");
        Check.type(x, "x");
        answers("x.edit(4, 0);", Check.edit(x, 4, 0));
        Check.dueText("as the README says", x, "a=1;xb=a+2*3;");
        answers("x.kept();", x.kept());
        answers("x.number(0);", x.number(0));
        answers("x.number(1);", x.number(1));
        answers("x.which(1);", x.which(1));
        answers("x.fault();", x.fault());
        shown("");
        answers("x.edit(12, 1);", Check.edit(x, 12, 1));
        answers("x.items();", x.items());
        answers("x.fault();", x.fault());
        shown("```");
        Check.finish("ReadmeTest");
    }

    private static String nextLine() {
        String line = next < lines.size() ? lines.get(next) : "";
        next++;
        return line;
    }

    private static void shown(String due) {
        Check.due("line " + (next + 1) + " of README.md is \"" + due + "\"", nextLine().equals(due), true);
    }

    /** The line shows this call, and behind // the answer, with or without words behind it. */
    private static void answers(String call, long got) {
        String line = nextLine();
        String said = line.replaceFirst(".*// (-?[0-9]+)(:.*)?$", "$1");
        Check.due("line " + next + " of README.md shows " + call, line.startsWith(call + " "), true);
        Check.due("line " + next + " of README.md says " + said + ": " + call, said.equals(Long.toString(got)), true);
    }
}
