import java.io.IOException;
import java.nio.file.Files;
import java.nio.file.Path;
import java.util.ArrayList;
import java.util.List;

/** The example of README.md answers as its comments say. It is run from the project's directory, where README.md is. */
public final class ReadmeTest {
    private static final Due DUE = new Due("README.md");

    public static void main(String[] args) {
        DUE.test("the example's calls answer as it says", ReadmeTest::example);
        DUE.test("the example is the one that is tested here",
                () -> DUE.is("its statements", exampleOfReadme().toString(), exampleHere().toString()));
        DUE.end();
    }

    private static void example() {
        // example
        GameNotation game = new GameNotation();
        game.type(0x346B332F382F382FL);
        game.type(0x382F382F382F382FL);
        game.type(0x344B332077202D20L);
        game.type(0x2D20302031L);
        int fault = game.record();

        int move = 4 + 64 * 12;
        game.tell(move, 0);
        int length = game.spell(move);
        int letter = game.text(0);
        int found = game.find();

        game.put(20, 7);
        game.state(1, 0, GameNotation.NONE, 0, 1);
        boolean attacked = game.attacked(11, 1);
        int written = game.write();
        int refused = game.find();
        // end
        DUE.is("record", fault, 0);
        DUE.is("spell", length, 3);
        DUE.is("text", letter, 'K');
        DUE.is("find", found, move);
        DUE.is("attacked", attacked, true);
        DUE.is("write", written, 31);
        DUE.is("find in a record", refused, -1);
        DUE.is("the text", textOf(game), "4k3/8/8/8/8/4p3/8/4K3 b - - 0 1");
    }

    private static String textOf(GameNotation game) {
        StringBuilder text = new StringBuilder();
        for (int i = 0; i < game.look(0); i++) {
            text.append((char) game.text(i));
        }
        return text.toString();
    }

    private static List<String> exampleOfReadme() {
        return statements("README.md", "```java", "```");
    }

    private static List<String> exampleHere() {
        return statements("src/test/java/ReadmeTest.java", "// example", "// end");
    }

    /** The lines between two others, without comments and blanks round them, and without those that are empty then. */
    private static List<String> statements(String file, String first, String last) {
        List<String> found = new ArrayList<>();
        boolean inside = false;
        for (String line : linesOf(file)) {
            if (inside && line.trim().equals(last)) {
                break;
            }
            String statement = line.split("//", 2)[0].trim();
            if (inside && !statement.isEmpty()) {
                found.add(statement);
            }
            inside = inside || line.trim().equals(first);
        }
        return found;
    }

    private static List<String> linesOf(String file) {
        try {
            return Files.readAllLines(Path.of(file));
        } catch (IOException e) {
            throw new AssertionError("could not read " + file, e);
        }
    }
}
