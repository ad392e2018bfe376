import java.io.IOException;
import java.nio.file.Files;
import java.nio.file.Path;
import java.util.List;

/** README.md: the calls that it shows answer what it says, one example behind the other. */
public final class ReadmeTest {
    private static final Checks CHECKS = new Checks();
    private static final Path README = Path.of("README.md");

    private final List<String> lines;
    private PileRecount recount = new PileRecount();
    private int calls = 0;

    private ReadmeTest(List<String> lines) {
        this.lines = lines;
    }

    public static void main(String[] arguments) throws IOException {
        ReadmeTest test = new ReadmeTest(Files.readAllLines(README));
        test.recounts();
        test.makesPilesOfTexts();
        long shown = test.lines.stream().filter(line -> line.startsWith("recount.")).count();
        CHECKS.due("calls that are shown", test.calls, (int) shown);
        CHECKS.end("ReadmeTest");
    }

    private void recounts() {
        shows("recount.pile(60, 40, 0);", recount.pile(60, 40, 0));
        shows("recount.pile(50, 50, 3);", recount.pile(50, 50, 3));
        shows("recount.pile(55, 45, 0);", recount.pile(55, 45, 0));
        shows("recount.finds(0, 62, 38);", recount.finds(0, 62, 38));
        shows("recount.limit(4000);", recount.limit(4000));
        shows("recount.state(2);", recount.state(2));
        shows("recount.state(3);", recount.state(3));
        shows("recount.atLeast();", recount.atLeast());
        shows("recount.stop();", recount.stop());
        shows("recount.draw();", recount.draw());
        shows("recount.state(6);", recount.state(6));
        shows("recount.finish();", recount.finish());
        shows("recount.counted(1);", recount.counted(1));
        shows("recount.ofPile(0, 5);", recount.ofPile(0, 5));
        shows("recount.ofPile(1, 5);", recount.ofPile(1, 5));
        shows("recount.undo();", recount.undo());
    }

    private void makesPilesOfTexts() {
        recount = new PileRecount();
        shows("recount.put(packed);", recount.put(Checks.packed("60,40,2")));
        shows("recount.fault();", recount.fault());
        shows("recount.make();", recount.make());
        CHECKS.due("the longer text", Checks.putText(recount, "60,40;50,50,3=52,48"), 19);
        CHECKS.due("its piles", recount.make(), 2);
    }

    /** The answer stands behind the call, and behind it a comma, a colon or the like. */
    private void shows(String call, int answer) {
        calls++;
        String line = lines.stream().filter(each -> each.startsWith(call)).findFirst().orElse("");
        String shown = line.substring(Math.max(0, line.indexOf("//") + 2)).trim().split("[,:]")[0];
        CHECKS.due(call + " as README.md shows it", shown, String.valueOf(answer));
    }
}
