import java.io.IOException;
import java.nio.file.Files;
import java.nio.file.Path;
import java.util.List;

/**
 * All promises: runs of calls with the answers of another court, written from the document alone
 * (tools/second_court.py). Asks those of src/test/data/runs.txt, or of a file that is told.
 */
public final class RecordedRunsTest {
    public static void main(String[] args) throws IOException {
        List<String> lines = Files.readAllLines(Path.of(args.length > 0 ? args[0] : "src/test/data/runs.txt"));
        ShadowCourt court = new ShadowCourt();
        boolean goesOn = true;
        for (int i = 0; i < lines.size(); i++) {
            String line = lines.get(i);
            if (line.equals("new")) {
                court = new ShadowCourt();
                goesOn = true;
            } else if (goesOn) {
                String[] sides = line.split(" = ");
                int answer = answer(court, sides[0].split(" "));
                int want = Integer.parseInt(sides[1]);
                Due.is("line " + (i + 1) + ", " + sides[0], answer, want);
                // behind a wrong answer the others of the run tell nothing more
                goesOn = answer == want;
            }
        }
        Due.end("RecordedRunsTest");
    }

    private static int answer(ShadowCourt court, String[] words) {
        int[] n = new int[5];
        for (int i = 1; i < words.length; i++) {
            n[i - 1] = Integer.parseInt(words[i]);
        }
        return switch (words[0]) {
            case "feed" -> court.feed(n[0], n[1], n[2], n[3], n[4]);
            case "market" -> court.market(n[0]);
            case "law" -> court.law(n[0]);
            case "judge" -> bit(court.judge(n[0], n[1], n[2]));
            case "walk" -> court.walk(n[0], n[1]);
            case "felon" -> bit(court.felon(n[0], n[1], n[2], n[3]));
            case "lamp" -> bit(court.lamp(n[0], n[1], n[2]));
            case "minutes" -> court.minutes(n[0]);
            case "tried" -> court.tried(n[0], n[1]);
            case "felonIs" -> court.felonIs(n[0], n[1]);
            case "shade" -> court.shade(n[0], n[1]);
            case "atOnce" -> court.atOnce(n[0]);
            case "fewest" -> court.fewest(n[0], n[1], n[2]);
            case "home" -> court.home(n[0], n[1], n[2]);
            case "first" -> court.first(n[0], n[1]);
            case "dark" -> court.dark(n[0], n[1]);
            case "hung" -> court.hung(n[0]);
            case "prints" -> court.prints(n[0], n[1]);
            case "cloudy" -> court.cloudy(n[0], n[1], n[2]);
            case "together" -> court.together(n[0], n[1]);
            case "servedBy" -> court.servedBy(n[0], n[1]);
            case "seed" -> bit(court.seed(n[0]));
            case "keep" -> court.keep();
            case "undo" -> bit(court.undo());
            case "check" -> court.check(n[0]);
            case "count" -> court.count(n[0]);
            default -> throw new IllegalArgumentException(words[0]);
        };
    }

    private static int bit(boolean answer) {
        return answer ? 1 : 0;
    }
}
