import java.io.IOException;
import java.nio.file.Files;
import java.nio.file.Path;
import java.util.ArrayList;
import java.util.List;

/** The example of README.md: each of its calls answers what the comment behind it says. */
public final class ReadmeTest {
    private final Due due = new Due();
    private final List<String> told = new ArrayList<>();

    public static void main(String[] args) throws IOException {
        ReadmeTest t = new ReadmeTest();
        t.example();
        t.due.same("the example of README.md", String.join("\n", t.told),
                String.join("\n", linesOfExample()));
        t.due.end("ReadmeTest");
    }

    private void example() {
        SpliceRoom room = new SpliceRoom();
        call("wind(0, 1, 5)", 1, room.wind(0, 1, 5));
        call("wind(1, 1, 5)", 1, room.wind(1, 1, 5));
        told.add("mark(0, 2, 13)");
        room.mark(0, 2, 13);
        call("splice(0, 0, 1, 2, 3)", 3, room.splice(0, 0, 1, 2, 3));
        call("frame(1, 4)", 13L, room.frame(1, 4));
        call("splice(0, 0, 2, 0, 1)", -1, room.splice(0, 0, 2, 0, 1));
        call("step(0, 0, 1, 0, 2)", 1, room.step(0, 0, 1, 0, 2));
        told.add("mark(1, 1, 77)");
        room.mark(1, 1, 77);
        call("play(true)", 1, room.play(true));
        call("frame(0, 1)", 77L, room.frame(0, 1));
        call("wind(3, 3, 2)", 3, room.wind(3, 3, 2));
        call("wind(4, 4, 2)", 4, room.wind(4, 4, 2));
        call("paste(3, 0, 8, true)", true, room.paste(3, 0, 8, true));
        call("paste(3, 1, 9, false)", true, room.paste(3, 1, 9, false));
        call("splice(3, 0, 4, 0, 2)", -4, room.splice(3, 0, 4, 0, 2));
        call("count(5)", 1, room.count(5));
        call("frame(4, 0)", 1008L, room.frame(4, 0));
    }

    private void call(String call, Object want, Object got) {
        told.add(call + " " + want);
        due.same(call, want, got);
    }

    /** Of each line that calls the room: the call, and the answer that its comment begins with. */
    private static List<String> linesOfExample() throws IOException {
        List<String> lines = new ArrayList<>();
        for (String line : Files.readAllLines(Path.of("README.md"))) {
            int call = line.indexOf("room.");
            int end = line.indexOf(';');
            if (call >= 0 && end > call) {
                int comment = line.indexOf("// ");
                String answer = comment < 0 ? "" : " " + line.substring(comment + 3).split(":")[0];
                lines.add(line.substring(call + "room.".length(), end) + answer);
            }
        }
        return lines;
    }
}
