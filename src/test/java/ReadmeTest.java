import java.io.IOException;
import java.nio.charset.StandardCharsets;
import java.nio.file.Files;
import java.nio.file.Path;
import java.util.ArrayList;
import java.util.List;
import java.util.function.IntSupplier;

/** The example of README.md: each call that it shows with an answer does answer so. Runs in the project's folder. */
public final class ReadmeTest {
    /** What the example shows behind "air.", with the answer behind it. */
    private static final List<String> SHOWN = new ArrayList<>();

    private ReadmeTest() {
    }

    public static void main(String[] args) throws IOException {
        for (String line : Files.readAllLines(Path.of("README.md"), StandardCharsets.UTF_8)) {
            if (line.matches("air\\..*; +// \\d+(:.*)?")) {
                SHOWN.add(line.replaceAll("air\\.(.*); +// (\\d+).*", "$1 $2"));
            }
        }
        Check.sentence("README.md, Use");
        example();
        Check.compare("what else it shows", "[]", SHOWN.toString());
        Check.end();
    }

    private static void example() {
        DuctSizes air = new DuctSizes();
        int hall = air.duct(0, 10, 2);
        int room = air.duct(hall, 20, 1);
        int desk = air.duct(hall, 5, 0);
        air.need(room, 20);
        air.need(desk, 10);
        air.size(20, 3);
        air.size(30, 5);
        air.size(60, 12);
        air.set(1, 2);
        air.fan(0, 300);
        air.fan(100, 100);
        shown("gives()", () -> air.gives());
        shown("flow(hall)", () -> air.flow(hall));
        shown("told(hall, 0, 0)", () -> air.told(hall, 0, 0));
        shown("told(hall, 0, 1)", () -> air.told(hall, 0, 1));
        shown("best(0)", () -> air.best(0));
        shown("best(1)", () -> air.best(1));
        shown("chosen(hall)", () -> air.chosen(hall));
        shown("chosen(room)", () -> air.chosen(room));
        shown("chosen(desk)", () -> air.chosen(desk));
        shown("pressure(room)", () -> air.pressure(room));
        shown("damper(desk)", () -> air.damper(desk));
        shown("worst()", () -> air.worst());
        shown("least(150)", () -> air.least(150));
    }

    private static void shown(String call, IntSupplier asking) {
        String row = call + " " + Check.answerOf(asking);
        Check.compare(row, "shown", SHOWN.remove(row) ? "shown" : "not shown");
    }
}
