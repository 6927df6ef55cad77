/** Promise 8, and what promises 6, 7 and 15 say of DOUBTS and ANSWERS. */
public final class DoubtTest {
    private static final int NO = TypedRooms.NO, NONE = TypedRooms.NONE;
    /** Three keys, two boxes, two shelves; you hold nothing. */
    private static final String KEYS = "r1;tbar01;tbbr01;tbgr01;taar01c;tabr01co;tfcr01s;tfdr01s;";

    public static void main(String[] args) {
        Check.all(check -> {
            onlyWhereTwoWouldDo(check);
            aboutTheFirst(check);
            aboutTheSecond(check);
            firstThenSecond(check);
            stillSeveral(check);
            wordsOfAnswers(check);
            answersThatFitNone(check);
            whatEndsIt(check);
            whatEndsItNot(check);
            withIt(check);
            takeFrom(check);
        });
    }

    private static void noDoubt(Check check, Rooms rooms) {
        check.due("doubt()", rooms.doubt(), NONE);
        check.due("phrases of the sentence in doubt", rooms.count(10), 0);
        check.due("phrase in doubt", rooms.count(11), NONE);
    }

    private static void doubt(Check check, Rooms rooms, int bits, int phrases, int about) {
        check.due("doubt()", rooms.doubt(), bits);
        check.due("phrases of the sentence in doubt", rooms.count(10), phrases);
        check.due("phrase in doubt", rooms.count(11), about);
    }

    private static void onlyWhereTwoWouldDo(Check check) {
        Rooms rooms = Check.laid(KEYS);
        noDoubt(check, rooms);
        check.done(rooms, "take red key", "drop key", "take gold key", "take red key", "put gold key in box");
        check.due("the key is in the box that is open", rooms.thing(2, 3), 3);
        check.done(rooms, "put key in box");
        check.due("the key that is held", rooms.thing(0, 3), 3);
        noDoubt(check, rooms);
        check.dueSaid(rooms, "close box", 8);
        check.done(rooms, "open box");
        check.due("the box that can be opened", rooms.thing(4, 6), 1);
    }

    private static void aboutTheFirst(Check check) {
        Rooms rooms = Check.laid(KEYS);
        check.dueSaid(rooms, "take the key", 4);
        doubt(check, rooms, 7, 1, 1);
        check.due("turns", rooms.count(3), 0);
        check.due("it", rooms.count(5), NONE);
        check.dueSaid(rooms, "blue", 0);
        noDoubt(check, rooms);
        check.due("the blue key is held", rooms.thing(1, 2), 2);
        check.due("it", rooms.count(5), 1);
        check.due("turns", rooms.count(3), 1);
        // Only those that can be taken are asked about.
        check.dueSaid(rooms, "take key", 4);
        doubt(check, rooms, 5, 1, 1);
        check.dueSaid(rooms, "the gold key", 0);
        check.due("undo()", rooms.undo(), 1);
        noDoubt(check, rooms);
        check.due("the gold key is back", rooms.thing(2, 2), 0);
    }

    private static void aboutTheSecond(Check check) {
        Rooms rooms = Check.laid(KEYS);
        check.done(rooms, "take red key");
        check.dueSaid(rooms, "put key on table", 4);
        doubt(check, rooms, 32 + 64, 2, 2);
        check.dueSaid(rooms, "new", 0);
        noDoubt(check, rooms);
        check.due("the key is on the new table", rooms.thing(0, 3), 6);
        check.due("it", rooms.count(5), 0);
        // Only those that it can be put in are asked about: not the closed one, not the one that is full.
        Rooms boxes = Check.laid("r1;tbar01;taar01co;tabr01c;tacr01c;tadr01c;ti-049;tj-043;");
        check.done(boxes, "take key");
        check.dueSaid(boxes, "put key in box", 4);
        doubt(check, boxes, 4 + 8, 2, 2);
        check.dueSaid(boxes, "new", 3);
        check.dueSaid(boxes, "old", 0);
    }

    private static void firstThenSecond(Check check) {
        Rooms rooms = Check.laid(KEYS);
        check.done(rooms, "take red key", "take blue key", "open blue box");
        check.dueSaid(rooms, "put key in box", 4);
        doubt(check, rooms, 3, 2, 1);
        check.dueSaid(rooms, "blue key", 4);
        doubt(check, rooms, 8 + 16, 2, 2);
        check.due("not done yet", rooms.thing(1, 2), 2);
        // The words mean the phrase in doubt alone: no box is gold, but one is red.
        check.dueSaid(rooms, "gold", 3);
        doubt(check, rooms, 8 + 16, 2, 2);
        check.dueSaid(rooms, "red", 0);
        noDoubt(check, rooms);
        check.due("the blue key is in the red box", rooms.thing(1, 3), 3);
        check.due("the red key is held", rooms.thing(0, 2), 2);
    }

    private static void stillSeveral(Check check) {
        Rooms rooms = Check.laid("r1;tbar01;tbar01;tbbr01;tb-r01;");
        check.dueSaid(rooms, "take key", 4);
        doubt(check, rooms, 15, 1, 1);
        check.dueSaid(rooms, "key", 4);
        doubt(check, rooms, 15, 1, 1);
        check.dueSaid(rooms, "red", 4);
        doubt(check, rooms, 3, 1, 1);
        check.dueSaid(rooms, "blue", 3);
        doubt(check, rooms, 3, 1, 1);
        check.dueSaid(rooms, "the red key", 4);
        doubt(check, rooms, 3, 1, 1);
        check.dueSaid(rooms, "take key", 4);
        doubt(check, rooms, 15, 1, 1);
    }

    private static void wordsOfAnswers(Check check) {
        for (String answer : new String[] {"red", "the red", "red key", "the red key"}) {
            Rooms rooms = Check.laid(KEYS);
            check.dueSaid(rooms, answer, 2);
            check.dueSaid(rooms, "take key", 4);
            check.dueSaid(rooms, answer, 0);
            check.due("the red key is held", rooms.thing(0, 2), 2);
            check.dueSaid(rooms, answer, 2);
        }
        Rooms rooms = Check.laid(KEYS);
        check.dueSaid(rooms, "take key", 4);
        for (String text : new String[] {"the", "it", "key red", "red blue", "the the red", "red it", "all", "red key key", "in red"}) {
            check.dueSaid(rooms, text, 2);
            doubt(check, rooms, 7, 1, 1);
        }
    }

    private static void answersThatFitNone(Check check) {
        Rooms rooms = Check.laid(KEYS);
        check.done(rooms, "take gold key");
        check.dueSaid(rooms, "take key", 4);
        for (String text : new String[] {"gold", "gold key", "box", "red box", "old", "rope", "the cup"}) {
            check.dueSaid(rooms, text, 3);
            doubt(check, rooms, 3, 1, 1);
        }
        check.dueSaid(rooms, "red", 0);
        check.due("turns", rooms.count(3), 2);
    }

    private static void whatEndsIt(Check check) {
        String[] others = {"take rope", "open key", "drop key", "take red key", "wait", "look", "n", "take all", "drop all",
            "put key in rope", "take it"};
        int[] due = {3, 8, 13, 0, 0, 0, 12, 0, 17, 3, 3};
        for (int i = 0; i < others.length; i++) {
            Rooms rooms = Check.laid(KEYS);
            check.dueSaid(rooms, "take key", 4);
            check.dueSaid(rooms, others[i], due[i]);
            noDoubt(check, rooms);
            check.dueSaid(rooms, "red", 2);
        }
        Rooms rooms = Check.laid(KEYS);
        check.done(rooms, "wait");
        check.dueSaid(rooms, "take key", 4);
        check.due("undo()", rooms.undo(), 0);
        noDoubt(check, rooms);
        check.dueSaid(rooms, "take key", 4);
        check.dueSaid(rooms, "put blue key in box", 13);
        noDoubt(check, rooms);
    }

    private static void whatEndsItNot(Check check) {
        Rooms rooms = Check.laid(KEYS);
        check.dueSaid(rooms, "take key", 4);
        check.dueSaid(rooms, "take xyz", 1);
        check.dueSaid(rooms, "", 1);
        check.dueSaid(rooms, " red", 1);
        check.dueSaid(rooms, "take", 2);
        check.dueSaid(rooms, "take red", 2);
        check.due("undo()", rooms.undo(), NO);
        check.due("lay()", rooms.lay(), NO);
        check.due("fault()", rooms.fault(), 0);
        check.due("would", rooms.would(0, 0, 0), 0);
        doubt(check, rooms, 7, 1, 1);
        check.dueSaid(rooms, "red", 0);
    }

    private static void withIt(Check check) {
        Rooms rooms = Check.laid(KEYS);
        check.done(rooms, "take red key");
        check.dueSaid(rooms, "put it on table", 4);
        doubt(check, rooms, 32 + 64, 2, 2);
        check.dueSaid(rooms, "old table", 0);
        check.due("the key is on the old table", rooms.thing(0, 3), 5);
        check.due("it", rooms.count(5), 0);
    }

    private static void takeFrom(Check check) {
        Rooms rooms = Check.laid("r1;taar01c;tabr01c;tb-001;tb-011;tb-011;");
        check.dueSaid(rooms, "take key from box", 4);
        doubt(check, rooms, 4 + 8 + 16, 2, 1);
        check.dueSaid(rooms, "take key from blue box", 4);
        doubt(check, rooms, 8 + 16, 2, 1);
        check.done(rooms, "take key from red box");
        check.due("the key of the red box", rooms.thing(2, 2), 2);
        check.dueSaid(rooms, "take key from red box", 18);
        // One key for two boxes is a doubt about the box, though only one key would do.
        check.dueSaid(rooms, "put key in box", 4);
        doubt(check, rooms, 3, 2, 2);
        check.dueSaid(rooms, "key", 3);
        check.dueSaid(rooms, "box", 4);
        doubt(check, rooms, 3, 2, 2);
        check.dueSaid(rooms, "blue", 0);
        check.due("the key is in the blue box", rooms.thing(2, 3), 1);
    }
}
