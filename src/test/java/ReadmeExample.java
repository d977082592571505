import java.io.IOException;
import java.nio.file.Files;
import java.nio.file.Path;

/**
 * Writes the example of README.md as a program that checks it: each line's answer stands behind its "//", up to a
 * colon. .ci/run compiles and runs what it writes.
 */
public final class ReadmeExample {
    private static final Path README = Path.of("README.md");

    private static String example() throws IOException {
        String text = Files.readString(README);
        int start = text.indexOf("```java\n") + "```java\n".length();
        return text.substring(start, text.indexOf("```\n", start));
    }

    /** A line of the example as a check of the answer that it tells. */
    private static String checked(String line) {
        int comment = line.indexOf("//");
        if (comment < 0) {
            return line;
        }
        String call = line.substring(0, comment).trim().replace(";", "");
        String due = line.substring(comment + 2).split(":")[0].trim().replace("throws ", "throws.");
        return "is(\"" + call + "\", answer(() -> " + call + "), \"" + due + "\");";
    }

    public static void main(String[] args) throws IOException {
        System.out.println("public final class ReadmeExampleRuns extends Checks {");
        System.out.println("    public static void main(String[] args) {");
        for (String line : example().split("\n")) {
            System.out.println("        " + checked(line));
        }
        System.out.println("        ends();");
        System.out.println("    }");
        System.out.println("}");
    }
}
