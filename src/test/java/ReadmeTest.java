import java.io.IOException;
import java.nio.file.Files;
import java.nio.file.Path;
import java.util.regex.Matcher;
import java.util.regex.Pattern;

/** The example in README.md: the last call of a line answers what stands behind the line's slashes. */
public final class ReadmeTest {
    private static final Pattern CALL = Pattern.compile("x\\.(\\w+)\\((-?\\d*)\\);");
    private static final Pattern LINE = Pattern.compile("(x\\..*;) +// (\\w+): .*");

    public static void main(String[] args) throws IOException {
        Due due = new Due();
        ClauseSearch x = new ClauseSearch();
        String readme = Files.readString(Path.of("README.md"));
        String example = readme.split("```java\n")[1].split("```")[0];
        int lines = 0;
        for (String line : example.split("\n")) {
            Matcher matcher = LINE.matcher(line);
            if (matcher.matches()) {
                lines++;
                due.is(line, matcher.group(2), () -> lastAnswer(x, matcher.group(1)));
            }
        }
        int found = lines;
        due.is("lines with an answer", example.split("\n").length - 1, () -> found);
        due.end();
    }

    private static String lastAnswer(ClauseSearch x, String calls) {
        String answer = "no call";
        Matcher call = CALL.matcher(calls);
        while (call.find()) {
            int with = call.group(2).isEmpty() ? 0 : Integer.parseInt(call.group(2));
            answer = new Script.Step(call.group(1), with).on(x);
        }
        return answer;
    }
}
