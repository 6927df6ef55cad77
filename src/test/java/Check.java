import java.io.IOException;
import java.io.UncheckedIOException;
import java.nio.file.Files;
import java.nio.file.Path;
import java.util.function.IntUnaryOperator;

/** What the tests share: typing into a house, and telling answers that are not due. */
final class Check {
    private static final Path DOCUMENT = Path.of("../shared/DOC.md");

    private int wrong = 0;
    private String document = null;

    private Check() {
    }

    interface Test {
        void run(Check check);
    }

    /** Runs a test and ends the program with 1 if an answer was not the one that is due. */
    static void all(Test test) {
        Check check = new Check();
        test.run(check);
        if (check.wrong != 0) {
            System.out.println(check.wrong + " answers are not as due");
            System.exit(1);
        }
    }

    /** Tests one sentence, which must stand so in the document; it is told if it does not hold. */
    void holds(String sentence, Test test) {
        int before = wrong;
        due("is in the document: " + sentence, document().contains(sentence) ? 1 : 0, 1);
        try {
            test.run(this);
        } catch (RuntimeException e) {
            // No call may throw; the sentences behind this one are still to be tested.
            wrong++;
            e.printStackTrace(System.out);
        }
        if (wrong != before) {
            System.out.println("BROKEN: " + sentence);
        }
    }

    private String document() {
        if (document == null) {
            try {
                document = Files.readString(DOCUMENT).replaceAll("\\s+", " ");
            } catch (IOException e) {
                throw new UncheckedIOException(e);
            }
        }
        return document;
    }

    boolean isWrong() {
        return wrong != 0;
    }

    void due(String call, int got, int want) {
        if (got != want) {
            wrong++;
            System.out.println(call + " answered " + got + ", due is " + want);
        }
    }

    /** Asks once for each of the numbers that are due, with 0, 1, .. */
    void dueRow(String call, IntUnaryOperator ask, int... want) {
        for (int i = 0; i < want.length; i++) {
            due(call + " " + i, ask.applyAsInt(i), want[i]);
        }
    }

    static void type(Rooms rooms, String text) {
        rooms.wipe();
        for (int i = 0; i < text.length(); i++) {
            rooms.write(text.charAt(i));
        }
    }

    static Rooms typed(String text) {
        Rooms rooms = new Rooms();
        for (int i = 0; i < text.length(); i++) {
            rooms.write(text.charAt(i));
        }
        return rooms;
    }

    static Rooms laid(String house) {
        Rooms rooms = typed(house);
        rooms.lay();
        return rooms;
    }

    /** FAULT of a house, told to a new object. */
    void dueFault(String house, int want) {
        due("fault of \"" + house + "\"", typed(house).fault(), want);
    }

    static int said(Rooms rooms, String sentence) {
        type(rooms, sentence);
        return rooms.say();
    }

    void dueSaid(Rooms rooms, String sentence, int want) {
        due("say \"" + sentence + "\"", said(rooms, sentence), want);
    }

    /** Says sentences that are all to be done. */
    void done(Rooms rooms, String... sentences) {
        for (String sentence : sentences) {
            dueSaid(rooms, sentence, 0);
        }
    }

    /** Says the text that stands as often as told; each time it is to be done. */
    void doneAgain(Rooms rooms, int times) {
        for (int i = 0; i < times; i++) {
            due("say again", rooms.say(), 0);
        }
    }

    /** All that can be looked at, but for what the letters of the text are. */
    static String look(Rooms rooms) {
        StringBuilder seen = new StringBuilder("doubt ").append(rooms.doubt()).append(", count");
        for (int what = 0; what <= 11; what++) {
            seen.append(' ').append(rooms.count(what));
        }
        int things = rooms.count(1);
        for (int t = 0; t < things; t++) {
            seen.append(", thing ").append(t).append(':');
            for (int what = 0; what <= 13; what++) {
                seen.append(' ').append(rooms.thing(t, what));
            }
        }
        int roomCount = rooms.count(0);
        for (int r = 0; r < roomCount; r++) {
            seen.append(", room ").append(r).append(':');
            for (int i = 0; i <= 3; i++) {
                seen.append(' ').append(rooms.room(r, i)).append(' ').append(rooms.way(r, i)).append(' ').append(rooms.door(r, i));
            }
        }
        return seen.toString();
    }

    /** Looks must not differ from what they were. */
    void dueLook(String call, Rooms rooms, String before) {
        String now = look(rooms);
        if (!now.equals(before)) {
            wrong++;
            System.out.println(call + " changed\n  " + before + "\nto\n  " + now);
        }
    }
}
