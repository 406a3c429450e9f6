import java.io.IOException;
import java.nio.file.Files;
import java.nio.file.Path;
import java.util.ArrayList;
import java.util.List;

/** The example of README.md answers what stands behind each of its calls; .ci/run starts it in the project's folder. */
public final class ReadmeTest {
    private static final String BEGIN = "```java\n";
    private static final String NEW_OBJECT = "Portinghall land = new Portinghall();";

    /** A line of the example: a call, and what it is said to answer. */
    private record Line(String call, String answer) { }

    public static void main(String[] args) throws IOException {
        List<Line> lines = example(Files.readString(Path.of("README.md")));
        List<Act> acts = acts();
        Check.is("the lines of the example", lines.size(), acts.size());
        Portinghall land = new Portinghall();
        for (int i = 0; i < Math.min(lines.size(), acts.size()); i++) {
            Line line = lines.get(i);
            Check.is("the example's call", plain(line.call), acts.get(i).name());
            Check.is("README.md: " + line.call, acts.get(i).outcomeOn(land).replace("throws.", ""), line.answer);
        }
        Check.finish("ReadmeTest");
    }

    private static List<Act> acts() {
        int onward = Portinghall.ONWARD;
        return List.of(
            Act.give(0, 4), Act.assign(7, 55), Act.order(1, 7, 55, 100), Act.pass(100), Act.server(7), Act.of(0, 0),
            Act.firm(1, 5), Act.why(3, 7, onward), Act.hop(3, 7, onward, 1), Act.hop(3, 7, onward, 2),
            Act.hop(3, 7, onward, 3), Act.reverse(0), Act.known(3, 7), Act.audit(3), Act.correct(3), Act.audit(3),
            Act.server(200), Act.assign(8, 100), Act.assign(7, 55));
    }

    private static List<Line> example(String readme) {
        int begin = readme.indexOf(BEGIN) + BEGIN.length();
        String code = readme.substring(begin, readme.indexOf("```", begin));
        List<Line> lines = new ArrayList<>();
        for (String line : code.split("\n")) {
            if (!line.equals(NEW_OBJECT)) {
                String[] parts = line.split(" +// ", 2);
                lines.add(new Line(parts[0], parts.length < 2 ? "" : parts[1].split(":", 2)[0]));
            }
        }
        return lines;
    }

    /** The call as an Act is named. */
    private static String plain(String call) {
        return call.replaceFirst("^land\\.", "").replaceFirst(";$", "")
            .replace("Portinghall.ONWARD", String.valueOf(Portinghall.ONWARD));
    }
}
