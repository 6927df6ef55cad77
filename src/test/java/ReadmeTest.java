import java.io.IOException;
import java.nio.file.Files;
import java.nio.file.Path;
import java.util.List;
import java.util.regex.Matcher;
import java.util.regex.Pattern;

/** What README.md shows must be so: the sentences with their answers, and the house. */
public final class ReadmeTest {
    private static final Pattern SAID = Pattern.compile("([a-z ]+?) {2,}(\\d+) {3}\\S.*");
    private static final Pattern HOUSE = Pattern.compile("r[01];.*;");

    public static void main(String[] args) throws IOException {
        List<String> lines = Files.readAllLines(Path.of("README.md"));
        Check.all(check -> {
            sentences(check, lines);
            houses(check, lines);
            firstLines(check);
        });
    }

    private static void sentences(Check check, List<String> lines) {
        Rooms rooms = new Rooms();
        int found = 0;
        for (String line : lines) {
            Matcher said = SAID.matcher(line);
            if (!said.matches()) {
                continue;
            }
            found++;
            check.dueSaid(rooms, said.group(1), Integer.parseInt(said.group(2)));
            if (said.group(1).equals("look")) {
                check.due("TOLD", rooms.count(4), 4);
            }
            if (said.group(1).equals("take box")) {
                check.due("doubt()", rooms.doubt(), 6);
            }
        }
        check.due("sentences in README.md", found, 14);
    }

    private static void houses(Check check, List<String> lines) {
        int found = 0;
        for (String line : lines) {
            if (!HOUSE.matcher(line).matches()) {
                continue;
            }
            found++;
            Rooms rooms = Check.typed(line);
            check.due("fault()", rooms.fault(), TypedRooms.NONE);
            check.due("lay()", rooms.lay(), 2);
            check.done(rooms, "open box", "take key", "unlock door with key", "open door", "take lamp", "light lamp", "go n", "look");
        }
        check.due("houses in README.md", found, 1);
    }

    private static void firstLines(Check check) {
        Rooms rooms = Check.typed("take lamp");
        check.due("say()", rooms.say(), 0);
        check.due("thing(5, 2)", rooms.thing(5, 2), 2);
        check.due("undo()", rooms.undo(), 0);
        check.due("wipe()", rooms.wipe(), 9);
    }
}
