import java.io.IOException;
import java.nio.file.Files;
import java.nio.file.Path;
import java.util.List;
import java.util.regex.Matcher;
import java.util.regex.Pattern;

/**
 * Writes a program of the Java blocks in README.md, each call held to the answer that stands behind it, so that what
 * the page shows is compiled and asked. Arguments: the page, and the directory for ReadmeRun.java.
 */
public final class ReadmeCalls {
    private static final Pattern MADE = Pattern.compile("AntFloor x = new AntFloor\\(\\);( *// .*)?");
    private static final Pattern CALL = Pattern.compile("(x\\.\\w+\\(.*\\)); *// (-?\\d+|[A-Z]+)(: .*)?");

    private ReadmeCalls() {
    }

    public static void main(String[] args) throws IOException {
        StringBuilder program = new StringBuilder("final class ReadmeRun {\n");
        int blocks = writeBlocks(Files.readAllLines(Path.of(args[0])), program);
        program.append("    public static void main(String[] args) {\n");
        for (int b = 1; b <= blocks; b++) {
            program.append("        block").append(b).append("();\n");
        }
        program.append("        Due.end();\n    }\n}\n");
        Files.writeString(Path.of(args[1], "ReadmeRun.java"), program.toString());
        Due.isTrue("there are blocks", blocks > 0);
        if (Due.wrong() > 0) {
            System.exit(1);
        }
    }

    private static int writeBlocks(List<String> page, StringBuilder program) {
        int blocks = 0;
        boolean isInside = false;
        for (int i = 0; i < page.size(); i++) {
            String line = page.get(i);
            if (line.startsWith("```")) {
                isInside = !isInside;
                Due.isTrue("line " + (i + 1) + " begins a block of java", !isInside || line.equals("```java"));
                blocks += isInside ? 1 : 0;
                program.append(isInside ? "    private static void block" + blocks + "() {\n" : "    }\n\n");
            } else if (isInside) {
                program.append("        ").append(written(line, i + 1)).append('\n');
            }
        }
        return blocks;
    }

    private static String written(String line, int number) {
        if (MADE.matcher(line).matches()) {
            return line;
        }
        Matcher call = CALL.matcher(line);
        if (!call.matches()) {
            Due.fail("README.md, line " + number + ", is no call with its answer: " + line);
            return "";
        }
        String answer = call.group(2);
        String due = Character.isLetter(answer.charAt(0)) ? "AntFloor." + answer : answer + "L";
        return "Due.is(\"README.md, line " + number + ": " + call.group(1) + "\", " + call.group(1) + ", " + due + ");";
    }
}
