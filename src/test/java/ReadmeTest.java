import java.io.IOException;
import java.nio.file.Files;
import java.nio.file.Path;
import java.util.List;

/** The example of README.md: its lines stand below, and answer what it tells. */
public final class ReadmeTest {
    private ReadmeTest() {
    }

    public static void main(String[] args) throws IOException {
        theExampleAnswersWhatItTells();
        itsLinesAreThoseBelow();
        Check.end();
    }

    private static void theExampleAnswersWhatItTells() {
        Bagweave airport = new Bagweave();
        int input = airport.addNode('i', 1, 3, 0);
        int reader = airport.addNode('r', 1, 3, 0);
        int coding = airport.addNode('m', 2, 3, 0);
        int screening = airport.addNode('s', 1, 3, 1);
        int chute = airport.addNode('c', 1, 3, 0);
        airport.link(input, reader);
        airport.link(reader, coding);
        airport.link(reader, screening);
        airport.link(coding, screening);
        airport.link(screening, chute);
        int flight = airport.addFlight(20);
        airport.assign(flight, chute, -1);
        airport.addUnit(flight, 'e', 5);
        airport.message(7, flight, 3);
        airport.board(3);
        int bag = airport.addBag(input, 7, 0, 'e');
        airport.goal(bag);
        Check.due("before it is read", 'm', airport.goal(bag));
        airport.tick(10);
        airport.whereIs(bag);
        Check.due("after ten ticks", 'u', airport.whereIs(bag));
        airport.tick(10);
        airport.whereIs(bag);
        Check.due("after twenty ticks", 'f', airport.whereIs(bag));
    }

    private static void itsLinesAreThoseBelow() throws IOException {
        List<String> own = Files.readAllLines(Path.of("src/test/java/ReadmeTest.java")).stream().map(String::trim).toList();
        boolean isExample = false;
        int found = 0;
        for (String line : Files.readAllLines(Path.of("README.md"))) {
            isExample = isExample && !line.equals("```");
            if (isExample) {
                int comment = line.indexOf("//");
                String code = (comment < 0 ? line : line.substring(0, comment)).trim();
                Check.due("a line of this test: " + code, true, own.contains(code));
                found++;
            }
            isExample = isExample || line.equals("```java");
        }
        Check.due("the example was found", true, found > 20);
    }
}
