import java.io.IOException;
import java.nio.file.Files;
import java.nio.file.Path;
import java.util.ArrayList;
import java.util.List;

/** The example of README.md: it stands here line by line, and its answers are those that its comments tell. */
final class ReadmeTest {
    private static final Expect expect = new Expect("ReadmeTest");

    public static void main(String[] args) throws IOException {
        example();
        sameLines(exampleOf(Path.of("README.md")), Files.readAllLines(Path.of("src/test/java/ReadmeTest.java")));
        expect.end();
    }

    private static void example() {
        StreetIndex index = new StreetIndex();
        int street = index.addStreet(2, 11 | 20 << 8);   // words 11 and 20: king lane
        expect.same("the name", Expect.line(index, street), "king lane");
        index.addPoint(street, 1, 2);                    // from B3 ...
        expect.same("the first point", Expect.line(index, street), "king lane: B3");
        index.addPoint(street, 1, 4);                    // ... straight on to B5
        expect.same("the second point", Expect.line(index, street), "king lane: B3-5");
        index.addPoint(street, 3, 4);                    // ... and to D5
        expect.same("the third point", Expect.line(index, street), "king lane: B3-5 C5 D5");
        index.setKind(11, 2);                            // "king" is moved behind

        StringBuilder line = new StringBuilder();
        for (int k = 0; k < index.lineLength(street); k++) {
            line.append(index.lineChar(street, k));
        }
        // line: "lane, king: B3-5 C5 D5"
        expect.same("the line", line.toString(), "lane, king: B3-5 C5 D5");

        int steps = index.walk(1, 2, 3, 4);              // 4 steps from B3 to D5
        expect.same("the walk", steps, 4);
        index.setOneWay(street, true);
        int back = index.walk(3, 4, 1, 2);               // -1: no walk leads back from D5 to B3
        expect.same("the walk back", back, -1);
    }

    private static List<String> exampleOf(Path readme) throws IOException {
        List<String> example = new ArrayList<>();
        boolean within = false;
        for (String line : Files.readAllLines(readme)) {
            if (line.startsWith("```")) {
                within = line.equals("```java");
            } else if (within) {
                example.add(line.strip());
            }
        }
        return example;
    }

    private static void sameLines(List<String> example, List<String> source) {
        expect.same("the example has lines", example.size() > 1, true);
        int next = 0;
        for (String line : source) {
            if (next < example.size() && line.strip().equals(example.get(next))) {
                next++;
            }
        }
        String rest = next < example.size() ? example.get(next) : "none";
        expect.same("the example's first line that is not run", rest, "none");
    }
}
