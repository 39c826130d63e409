import java.io.IOException;
import java.nio.file.Files;
import java.nio.file.Path;
import java.util.Iterator;
import java.util.List;

/** The examples of README.md, call by call: what stands there is what the class answers. */
public final class ReadmeTest {
    private static Iterator<String> examples;

    public static void main(String[] args) throws IOException {
        List<String> lines = Files.readAllLines(Path.of("README.md"));
        examples = lines.stream().filter(line -> line.startsWith("machine.")).iterator();
        sums();
        keyIntoSector();
        Check.equal("examples of README.md that are not tested", examples.hasNext() ? 1 : 0, 0);
        Check.finish();
    }

    private static void sums() {
        SixtyFive machine = new SixtyFive();
        next("load(512, 0xA90569078510L, 6)", machine.load(512, 0xA90569078510L, 6));
        next("run(3)", machine.run(3));
        next("peek(16)", machine.peek(16));
        next("get(0)", machine.get(0));
    }

    private static void keyIntoSector() {
        SixtyFive machine = new SixtyFive();
        next("press(65)", machine.press(65));
        next("load(512, 0xADF1038D0203L, 6)", machine.load(512, 0xADF1038D0203L, 6));
        next("load(518, 0xA9068DF203L, 5)", machine.load(518, 0xA9068DF203L, 5));
        next("load(523, 0x8DF403L, 3)", machine.load(523, 0x8DF403L, 3));
        next("run(5)", machine.run(5));
        next("get(7)", machine.get(7));
        next("sector(6, 2)", machine.sector(6, 2));
    }

    /** The next example is this call, and the number at the head of its comment is this answer. */
    private static void next(String call, int answer) {
        String line = examples.hasNext() ? examples.next() : "nothing";
        String example = line.replaceAll("\\s*//\\s*(\\d+).*", " $1");
        Check.same("README.md", example, "machine." + call + "; " + answer);
    }
}
