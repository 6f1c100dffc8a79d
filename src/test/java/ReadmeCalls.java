import java.io.IOException;
import java.nio.file.Files;
import java.nio.file.Path;
import java.util.List;
import java.util.regex.Matcher;
import java.util.regex.Pattern;

/** All promises: prints the class ReadmeTest, which makes the calls of README.md and checks what it tells of them. */
public final class ReadmeCalls {
    /** A call, or a variable that has its answer, and the answer as it would be written in Java. */
    private static final Pattern ANSWERED = Pattern.compile("((?:int (\\w+) = )?(.*));\\s*// (.*)");
    private static final String THROWS = "throws ";
    /** The calls of the document's face, each of which README.md must show. */
    private static final String[] FACE = {"type", "table", "record", "cell", "drop", "compile", "merge", "size", "out",
        "variable", "about", "number"};

    private final StringBuilder methods = new StringBuilder();
    private final StringBuilder calls = new StringBuilder();

    public static void main(String[] args) throws IOException {
        List<String> lines = Files.readAllLines(Path.of(args[0]));
        String readme = String.join("\n", lines);
        for (String name : FACE) {
            if (!readme.contains("desk." + name + "(")) {
                System.err.println("README.md shows no call of " + name);
                System.exit(1);
            }
        }
        ReadmeCalls test = new ReadmeCalls();
        test.readBlocks(lines);
        System.out.print(test.source());
    }

    private void readBlocks(List<String> lines) {
        boolean inside = false;
        boolean method = false;
        for (String line : lines) {
            if (line.startsWith("```")) {
                inside = line.equals("```java");
                method = false;
            } else if (inside) {
                method = method || line.startsWith("static ");
                (method ? methods : calls).append(method ? line : checked(line)).append('\n');
            }
        }
    }

    private static String checked(String line) {
        Matcher parts = ANSWERED.matcher(line);
        if (!parts.matches()) {
            return line;
        }
        String statement = parts.group(1);
        String variable = parts.group(2);
        String answer = parts.group(4);
        String what = "\"README.md: " + parts.group(3).replace("\"", "\\\"") + "\"";
        if (answer.startsWith(THROWS)) {
            return "Check.same(" + what + ", thrown(() -> " + statement + "), \"" + answer.substring(THROWS.length())
                    + "\");";
        }
        if (variable != null) {
            return statement + ";\nCheck.same(" + what + ", " + variable + ", " + answer + ");";
        }
        return "Check.same(" + what + ", " + statement + ", " + answer + ");";
    }

    private String source() {
        return "public final class ReadmeTest {\n" + methods
                + "static String thrown(Runnable call) {\n"
                + "try {\ncall.run();\nreturn \"nothing\";\n"
                + "} catch (RuntimeException e) {\nreturn e.getClass().getSimpleName();\n}\n}\n"
                + "public static void main(String[] args) {\n" + calls + "Check.end();\n}\n}\n";
    }
}
