/** Promises 6 and 7: say and undo. */
public final class SaidTest {
    private static final int BAD = TypedRooms.BAD, NO = TypedRooms.NO, NONE = TypedRooms.NONE;

    public static void main(String[] args) {
        Check.all(check -> {
            words(check);
            noSentences(check);
            sentences(check);
            fitting(check);
            it(check);
            all(check);
            going(check);
            looking(check);
            lamps(check);
            reasons(check);
            undo(check);
            undoAll(check);
        });
    }

    private static void words(Check check) {
        for (String text : new String[] {"", " ", "  ", " look", "look ", "look  in box", "Look", "look.", "loo", "looks",
            "takelamp", "take lamp!", "xyz", "go north", "open 1", "the the x", "n ".repeat(120)}) {
            notDone(check, text, 1);
        }
        for (String word : ("box key lamp coin bag table chest book cup rope ball door "
            + "red blue old new big small gold iron take drop put open close lock unlock light douse go "
            + "in on from with the it all").split(" ")) {
            notDone(check, word, 2);
        }
        notDone(check, "n ".repeat(119) + "n", 2);
        notDone(check, "n ".repeat(119) + "in", 2);
    }

    private static void noSentences(Check check) {
        for (String text : new String[] {"take the", "take red", "take box red", "take red blue box", "take the the box",
            "take the it", "take red it", "take box key", "take lamp from", "take lamp from red", "take from box",
            "take lamp in box", "take lamp with key", "take all all", "take all from box", "take the all",
            "drop", "drop lamp from box", "drop all all", "put lamp", "put lamp in", "put lamp from box", "put in box",
            "put lamp in box on table", "put all in box", "open", "open all", "open box with key", "close", "lock door",
            "lock door with", "lock with key", "unlock door", "unlock door in key", "light", "light lamp with lamp",
            "douse", "look box", "look in", "look on table", "look in all", "look look", "wait wait", "wait n",
            "go", "go go", "go in", "go n n", "go the n", "n n", "the n", "it", "the lamp", "red", "lamp", "red box",
            "all", "lamp take", "in box"}) {
            notDone(check, text, 2);
        }
    }

    private static void notDone(Check check, String text, int want) {
        Rooms rooms = new Rooms();
        check.dueSaid(rooms, text, want);
        check.due("turns", rooms.count(3), 0);
        check.due("letters", rooms.count(7), text.length());
    }

    private static void sentences(Check check) {
        Rooms rooms = new Rooms();
        check.done(rooms, "open the red box", "take gold key from red box", "put the gold key in the red box",
            "take it", "put it on the table", "look in red box");
        check.due("told", rooms.count(4), 0);
        check.done(rooms, "close red box", "take old lamp", "light the lamp", "douse lamp", "drop the old lamp", "look", "wait");
        check.due("turns", rooms.count(3), 13);
        check.done(rooms, "go n", "take iron key", "unlock door with iron key", "lock iron door with the iron key",
            "unlock door with key", "open door", "close door", "open it", "e", "go w", "s");
        check.due("turns", rooms.count(3), 24);
        check.due("your room", rooms.count(2), 0);
        check.done(rooms, "take all", "drop all");
    }

    /** What is not SEEN does not count; the first PHRASE is as good as the second. */
    private static void fitting(Check check) {
        Rooms rooms = new Rooms();
        check.dueSaid(rooms, "take rope", 3);
        check.dueSaid(rooms, "take gold key", 3);
        check.dueSaid(rooms, "take key", 3);
        check.dueSaid(rooms, "take blue lamp", 3);
        check.dueSaid(rooms, "open door", 3);
        check.dueSaid(rooms, "put rope in box", 3);
        check.dueSaid(rooms, "put lamp in cup", 3);
        check.dueSaid(rooms, "put cup in rope", 3);
        check.done(rooms, "open red box");
        check.done(rooms, "take gold key");
        check.dueSaid(rooms, "take old table", 3);
        check.due("turns", rooms.count(3), 2);
        Rooms dark = Check.laid("r1;r0;tb-r01;tccr03l;tbar11;d01n;");
        check.done(dark, "take lamp", "light it", "n");
        check.due("seen", dark.count(9), 2);
        check.done(dark, "douse lamp");
        check.dueSaid(dark, "take key", 3);
        check.done(dark, "drop lamp");
        check.dueSaid(dark, "take lamp", 3);
        check.due("seen in the dark", dark.count(9), 0);
        check.dueSaid(dark, "take all", 17);
        check.dueSaid(dark, "look", 5);
    }

    private static void it(Check check) {
        Rooms rooms = new Rooms();
        check.dueSaid(rooms, "take it", 3);
        check.done(rooms, "take lamp");
        check.due("it", rooms.count(5), 5);
        check.dueSaid(rooms, "open lamp", 8);
        check.dueSaid(rooms, "open rope", 3);
        check.due("it after what was not done", rooms.count(5), 5);
        check.done(rooms, "open red box");
        check.due("it", rooms.count(5), 1);
        check.done(rooms, "put lamp in it");
        check.due("it is of the first phrase", rooms.count(5), 5);
        check.done(rooms, "close red box");
        check.done(rooms, "wait", "look", "n", "s");
        check.dueSaid(rooms, "take all", 0);
        check.done(rooms, "drop all");
        check.due("it after sentences without phrases", rooms.count(5), 1);
        check.done(rooms, "open it", "take lamp from it", "drop it", "n");
        check.due("it is kept when it is not seen", rooms.count(5), 5);
        check.dueSaid(rooms, "take it", 3);
        check.done(rooms, "s", "take it");
    }

    private static void all(Check check) {
        Rooms rooms = new Rooms();
        check.dueSaid(rooms, "drop all", 17);
        // The boxes (3 and 3) and the lamp (3) can be carried, the table is fixed.
        check.done(rooms, "take all");
        check.dueRow("kind of place", t -> rooms.thing(t, 2), 0, 2, 2, 1, 0, 2, 1);
        check.due("turns", rooms.count(3), 1);
        check.due("with you", rooms.count(8), 9);
        check.dueSaid(rooms, "take all", 17);
        check.due("turns", rooms.count(3), 1);
        check.done(rooms, "open blue box");
        check.dueSaid(rooms, "take all", 17);
        check.due("what is in a held box is not taken", rooms.thing(6, 2), 1);
        check.done(rooms, "n", "drop all");
        check.dueRow("place", t -> rooms.thing(t, 3), 0, 1, 1, 1, 1, 1, 2);
        check.due("kind of place of what is in the box", rooms.thing(6, 2), 1);
        // Lowest first: 9 can be taken, then 4 is too much, then 3 is not.
        Rooms heavy = Check.laid("r1;tg-r09;th-r04;ti-r03;tj-r01;tk-r01f;");
        check.done(heavy, "take all");
        check.dueRow("kind of place", t -> heavy.thing(t, 2), 2, 0, 2, 0, 0, BAD);
        check.due("with you", heavy.count(8), 12);
        Rooms inside = Check.laid("r1;ta-r01c;tb-001;tf-r01s;tc-021;");
        check.done(inside, "take all");
        check.dueRow("kind of place", t -> inside.thing(t, 2), 2, 1, 2, 1);
        check.done(inside, "drop all");
        check.dueRow("kind of place", t -> inside.thing(t, 2), 0, 1, 0, 1);
        // The same things, told in an order in which what is inside comes first, once it was put in.
        Rooms outside = Check.laid("r1;tb-r01;ta-r01c;");
        check.done(outside, "take key", "put key in box", "take all");
        check.dueRow("kind of place", t -> outside.thing(t, 2), 2, 2);
    }

    private static void going(Check check) {
        Rooms rooms = new Rooms();
        for (String side : new String[] {"s", "e", "w", "go s", "go e", "go w"}) {
            check.dueSaid(rooms, side, 12);
        }
        check.done(rooms, "go n");
        check.due("your room", rooms.count(2), 1);
        check.dueSaid(rooms, "e", 6);
        check.dueSaid(rooms, "n", 12);
        check.dueSaid(rooms, "w", 12);
        check.due("turns", rooms.count(3), 1);
        check.done(rooms, "take key", "unlock door with key");
        check.dueSaid(rooms, "e", 6);
        check.done(rooms, "open door", "e");
        check.due("your room", rooms.count(2), 2);
        check.dueSaid(rooms, "e", 12);
        check.dueSaid(rooms, "look", 5);
        check.done(rooms, "w", "s");
        check.due("your room", rooms.count(2), 0);
    }

    private static void looking(Check check) {
        Rooms rooms = new Rooms();
        check.done(rooms, "look");
        check.due("told", rooms.count(4), 4);
        check.due("it", rooms.count(5), NONE);
        check.dueSaid(rooms, "look in red box", 6);
        check.dueSaid(rooms, "look in table", 8);
        check.due("told after what was not done", rooms.count(4), 4);
        check.done(rooms, "open red box", "look in red box");
        check.due("told", rooms.count(4), 1);
        check.done(rooms, "wait");
        check.due("told stays", rooms.count(4), 1);
        check.done(rooms, "look");
        check.due("told", rooms.count(4), 5);
        // Only what has the box itself for its place counts.
        Rooms nested = Check.laid("r1;ta-r01c;te-001c;td-011;tj-001;");
        check.done(nested, "look in box");
        check.due("told", nested.count(4), 2);
    }

    private static void lamps(Check check) {
        Rooms rooms = Check.laid("r1;r0;tccr03l;tcdr03l;d01n;");
        check.done(rooms, "take old lamp", "light old lamp");
        check.due("oil", rooms.thing(0, 9), 19);
        check.due("oil of the other", rooms.thing(1, 9), 20);
        check.dueSaid(rooms, "light old lamp", 9);
        check.dueSaid(rooms, "drop rope", 3);
        check.due("oil after what was not done", rooms.thing(0, 9), 19);
        check.done(rooms, "n");
        for (int oil = 17; oil >= 1; oil--) {
            check.done(rooms, "wait");
            check.due("oil", rooms.thing(0, 9), oil);
            check.due("on", rooms.thing(0, 8), 1);
        }
        // It burns out in this turn, but what is seen is told as it is said.
        check.done(rooms, "look");
        check.due("told", rooms.count(4), 1);
        check.due("oil", rooms.thing(0, 9), 0);
        check.due("on", rooms.thing(0, 8), 0);
        check.due("lit", rooms.room(1, 1), 0);
        check.dueSaid(rooms, "look", 5);
        check.dueSaid(rooms, "light lamp", 15);
        check.dueSaid(rooms, "douse lamp", 9);
        check.done(rooms, "wait", "s");
        check.due("oil", rooms.thing(0, 9), 0);
        // Two lamps fit; only one can be lit once it is held.
        check.dueSaid(rooms, "light lamp", 15);
        check.done(rooms, "take new lamp", "light lamp");
        check.due("it", rooms.count(5), 1);
        check.done(rooms, "drop all", "n", "wait");
        check.due("a lamp burns elsewhere too", rooms.thing(1, 9), 16);
        check.due("and lights where it is", rooms.room(1, 1), 0);
        check.done(rooms, "s", "douse it", "wait");
        check.due("a lamp that is off burns not", rooms.thing(1, 9), 15);
    }

    /** The reason told is that of the lowest of each PHRASE. */
    private static void reasons(Check check) {
        Rooms rooms = Check.laid("r1;tbar01;tbbr01f;taar01co;tabr01s;");
        check.dueSaid(rooms, "drop key", 13);
        check.dueSaid(rooms, "put key in box", 13);
        check.done(rooms, "take red key");
        check.dueSaid(rooms, "put red key in box", 6);
        check.dueSaid(rooms, "take key", 9);
        check.dueSaid(rooms, "take blue key", 8);
        check.dueSaid(rooms, "light key", 8);
        check.dueSaid(rooms, "take key from box", 18);
        check.done(rooms, "put key on box", "take key from box");
        check.dueSaid(rooms, "lock box with key", 8);
        check.due("doubt()", rooms.doubt(), NONE);
    }

    private static void undo(Check check) {
        Rooms rooms = new Rooms();
        check.due("undo() at first", rooms.undo(), NO);
        check.done(rooms, "take lamp", "light it", "look", "open red box", "put lamp in it");
        check.due("can be undone", rooms.count(6), 5);
        check.due("oil", rooms.thing(5, 9), 16);
        check.due("undo()", rooms.undo(), 4);
        check.dueRow("lamp,", what -> rooms.thing(5, what), 2, 2, 2, NONE, 3, 3, NONE, NONE, 1, 17, 1);
        check.dueRow("count", rooms::count, 3, 10, 0, 4, 4, 1, 4, 14, 3, 5);
        check.due("undo()", rooms.undo(), 3);
        check.dueRow("count", rooms::count, 3, 10, 0, 3, 4, 5, 3, 14, 3, 4);
        check.due("the box is closed", rooms.thing(1, 6), 0);
        check.due("undo()", rooms.undo(), 2);
        check.due("told", rooms.count(4), 0);
        check.due("undo()", rooms.undo(), 1);
        check.due("on", rooms.thing(5, 8), 0);
        check.due("oil", rooms.thing(5, 9), 20);
        check.due("undo()", rooms.undo(), 0);
        check.due("it", rooms.count(5), NONE);
        check.due("undo()", rooms.undo(), NO);
        check.due("the text stays", rooms.wipe(), 14);
    }

    private static void undoAll(Check check) {
        Rooms rooms = new Rooms();
        check.done(rooms, "n", "s", "take all", "drop all", "wait", "look", "n", "take iron key");
        check.due("can be undone", rooms.count(6), 8);
        check.done(rooms, "unlock door with key");
        check.due("no more than the last 8", rooms.count(6), 8);
        check.dueSaid(rooms, "take door", 8);
        check.due("what is not done does not count", rooms.count(6), 8);
        for (int more = 7; more >= 0; more--) {
            check.due("undo()", rooms.undo(), more);
        }
        check.due("undo() of one more", rooms.undo(), NO);
        check.due("turns", rooms.count(3), 1);
        check.due("your room", rooms.count(2), 1);
        check.due("the door is locked", rooms.thing(9, 7), 1);
        check.done(rooms, "s");
        check.due("undo() after a new sentence", rooms.undo(), 0);
        check.due("turns", rooms.count(3), 1);
        // A refused sentence may not push the oldest out.
        Rooms other = new Rooms();
        check.done(other, "n", "wait", "wait", "wait", "wait", "wait", "wait", "wait");
        check.dueSaid(other, "drop all", 17);
        check.dueSaid(other, "take all", 0);
        check.dueSaid(other, "take all", 17);
        for (int more = 7; more >= 0; more--) {
            check.due("undo()", other.undo(), more);
        }
        check.due("your room", other.count(2), 1);
        check.due("turns", other.count(3), 1);
    }
}
