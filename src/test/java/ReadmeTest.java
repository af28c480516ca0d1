import java.io.IOException;
import java.nio.file.Files;
import java.nio.file.Path;
import java.util.List;

/** The example of README.md: its lines are the ones that are called here, and answer what it says. */
public final class ReadmeTest {
    private static final List<String> EXAMPLE = List.of(
            "FeatherVotes state = new FeatherVotes();",
            "int tern = state.bird(4);            // a new bird of kind 4: its number, 0",
            "state.change(tern, 3, 9);            // 9 feathers of colour 0; it had 0",
            "int motion = state.motion(0);        // a new motion of colour 0: its number, 0",
            "state.tell(motion, 2, 1 << tern);    // the tern is for it; its wants were 0",
            "state.passes(motion);                // 1: it would pass",
            "state.vote(motion);                  // 1: it passes, and is law",
            "state.of(tern, 3);                   // 6: it dropped 3",
            "state.bird(7);                       // -1000001: BEYOND, there is no such kind",
            "state.status(0);                     // 1: BEYOND was answered once");

    private ReadmeTest() {
    }

    public static void main(String[] args) throws IOException {
        Due due = new Due();
        due.part("README.md");
        String readme = Files.readString(Path.of("README.md"));
        String shown = "```java\n" + String.join("\n", EXAMPLE) + "\n```\n";
        due.is("the example is the one that is called here", readme.contains(shown) ? 1 : 0, 1);
        due.is("no other example", readme.split("```java", -1).length - 1, 1);
        FeatherVotes state = new FeatherVotes();
        int tern = state.bird(4);
        due.is(EXAMPLE.get(1), tern, 0);
        due.is(EXAMPLE.get(2), state.change(tern, 3, 9), 0);
        int motion = state.motion(0);
        due.is(EXAMPLE.get(3), motion, 0);
        due.is(EXAMPLE.get(4), state.tell(motion, 2, 1 << tern), 0);
        due.is(EXAMPLE.get(5), state.passes(motion), 1);
        due.is(EXAMPLE.get(6), state.vote(motion), 1);
        due.is(EXAMPLE.get(7), state.of(tern, 3), 6);
        due.is(EXAMPLE.get(8), state.bird(7), -1000001);
        due.is(EXAMPLE.get(9), state.status(0), 1);
        due.end();
    }
}
