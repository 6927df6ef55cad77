import java.util.function.IntUnaryOperator;

/** What the tests share: typing into a TypedRooms, and telling answers that are not due. */
final class Check {
    private int wrong = 0;

    private Check() {
    }

    interface Test {
        void run(Check check);
    }

    /** Runs a test and ends the program with 1 if an answer was not the one that is due. */
    static void all(Test test) {
        Check check = new Check();
        test.run(check);
        if (check.wrong != 0) {
            System.out.println(check.wrong + " answers are not as due");
            System.exit(1);
        }
    }

    boolean isWrong() {
        return wrong != 0;
    }

    void due(String call, int got, int want) {
        if (got != want) {
            wrong++;
            System.out.println(call + " answered " + got + ", due is " + want);
        }
    }

    /** Asks once for each of the numbers that are due, with 0, 1, .. */
    void dueRow(String call, IntUnaryOperator ask, int... want) {
        for (int i = 0; i < want.length; i++) {
            due(call + " " + i, ask.applyAsInt(i), want[i]);
        }
    }

    static void type(TypedRooms rooms, String text) {
        rooms.wipe();
        for (int i = 0; i < text.length(); i++) {
            rooms.write(text.charAt(i));
        }
    }

    static TypedRooms laid(String house) {
        TypedRooms rooms = new TypedRooms();
        type(rooms, house);
        rooms.lay();
        return rooms;
    }

    static int said(TypedRooms rooms, String sentence) {
        type(rooms, sentence);
        return rooms.say();
    }

    void dueSaid(TypedRooms rooms, String sentence, int want) {
        due("say \"" + sentence + "\"", said(rooms, sentence), want);
    }

    /** Says sentences that are all to be done. */
    void done(TypedRooms rooms, String... sentences) {
        for (String sentence : sentences) {
            dueSaid(rooms, sentence, 0);
        }
    }
}
