import java.io.IOException;
import java.nio.file.Files;
import java.nio.file.Path;
import java.util.ArrayList;
import java.util.List;
import java.util.regex.Matcher;
import java.util.regex.Pattern;

/**
 * Prints a test that holds the java blocks of README.md, whose path it is given: each block once as it stands, so that
 * it must compile, and once with a check for each line behind whose "//" stands an answer or "throws", up to a colon or
 * the line's end. It ends with exit code 1 if there is nothing to check, or an answer that it cannot read.
 */
public final class ReadmeExample {
    private static final Pattern LINE = Pattern.compile("(?:(\\w+ (\\w+)) = )?(.+?);\\s*(?://\\s*(.*))?");
    private static final Pattern ANSWER = Pattern.compile("(-?\\d+(?:\\.\\d+)?|true|false)(?::.*)?");
    private static final Pattern LIKE_ANSWER = Pattern.compile("[-\\d].*|(?:true|false|throws)\\b.*");
    private static final Pattern THROWN = Pattern.compile("throws (\\w+)(?::.*)?");

    private int checks = 0;
    private boolean unread = false;

    public static void main(String[] args) throws IOException {
        List<List<String>> blocks = blocks(Files.readAllLines(Path.of(args[0])));
        ReadmeExample example = new ReadmeExample();
        StringBuilder test = new StringBuilder("final class ReadmeUse {\n");
        StringBuilder runs = new StringBuilder();
        for (int block = 0; block < blocks.size(); block++) {
            test.append(method("shown" + block, blocks.get(block)));
            test.append(method("checked" + block, example.checked(blocks.get(block))));
            runs.append("        checked").append(block).append("();\n");
        }
        test.append("    public static void main(String[] args) {\n").append(runs);
        System.out.println(test.append("        Check.finish();\n    }\n}"));
        if (example.checks == 0 || example.unread) {
            System.err.println("README.md shows no use of the class, or an answer without a colon behind it");
            System.exit(1);
        }
    }

    private static List<List<String>> blocks(List<String> lines) {
        List<List<String>> blocks = new ArrayList<>();
        List<String> block = null;
        for (String line : lines) {
            if (line.startsWith("```")) {
                block = line.equals("```java") ? new ArrayList<>() : null;
                if (block != null) {
                    blocks.add(block);
                }
            } else if (block != null) {
                block.add(line);
            }
        }
        return blocks;
    }

    private static String method(String name, List<String> lines) {
        return "    static void " + name + "() {\n" + String.join("\n", lines) + "\n    }\n";
    }

    private List<String> checked(List<String> block) {
        List<String> lines = new ArrayList<>();
        for (String line : block) {
            lines.add(checked(line));
        }
        return lines;
    }

    private String checked(String line) {
        Matcher parts = LINE.matcher(line);
        if (!parts.matches() || parts.group(4) == null) {
            return line;
        }
        String call = parts.group(3);
        Matcher answer = ANSWER.matcher(parts.group(4));
        Matcher thrown = THROWN.matcher(parts.group(4));
        if (thrown.matches()) {
            checks++;
            return "Check.thrown(\"README.md: " + call + "\", " + thrown.group(1) + ".class, () -> " + call + ");";
        }
        if (!answer.matches()) {
            unread |= LIKE_ANSWER.matcher(parts.group(4)).matches();
            return line;
        }
        checks++;
        boolean isKept = parts.group(1) != null;
        String kept = isKept ? parts.group(1) + " = " + call + "; " : "";
        String got = isKept ? parts.group(2) : call;
        return kept + "Check.due(\"README.md: " + call + "\", " + got + ", " + answer.group(1) + ");";
    }
}
