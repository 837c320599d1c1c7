import java.io.IOException;
import java.nio.file.Files;
import java.nio.file.Path;
import java.util.LinkedHashMap;
import java.util.Map;
import java.util.regex.Matcher;
import java.util.regex.Pattern;

/** The run of calls in README.md gives the answers that README.md writes beside it. */
public final class ReadmeTest extends Checks {
    private static final Pattern ANSWER = Pattern.compile("int (\\w+) = x\\.(.*);\\s+// (-?\\d+).*");

    public static void main(String[] args) throws IOException {
        part("README.md");
        same("its calls with their answers", exampleRun().toString(), writtenRun().toString());
        finish("the README's run is as written");
    }

    private static Map<String, Integer> exampleRun() {
        Map<String, Integer> answers = new LinkedHashMap<>();
        Counted x = new Counted();
        x.levels(2);
        x.level(0, 2, 4);
        x.level(1, 8, 20);
        x.period(50);
        int p = x.process(0);
        answers.put("process(0)", p);
        x.burst(p, 12);
        x.burst(p, 5);
        x.burst(p, 3);
        int q = x.process(5);
        answers.put("process(5)", q);
        x.burst(q, 3);
        answers.put("run(7)", x.run(7));
        answers.put("running()", x.running());
        answers.put("queued(0, 0)", x.queued(0, 0));
        answers.put("queued(1, 0)", x.queued(1, 0));
        answers.put("run(23)", x.run(23));
        answers.put("time()", x.time());
        answers.put("told(p, 6)", x.told(p, 6));
        answers.put("told(q, 6)", x.told(q, 6));
        answers.put("all(0)", x.all(0));
        answers.put("switched(3)", x.switched(3));
        return answers;
    }

    private static Map<String, Integer> writtenRun() throws IOException {
        Map<String, Integer> answers = new LinkedHashMap<>();
        for (String line : Files.readAllLines(Path.of("README.md"))) {
            Matcher answer = ANSWER.matcher(line);
            if (answer.matches()) {
                answers.put(answer.group(2), Integer.valueOf(answer.group(3)));
            }
        }
        return answers;
    }
}
