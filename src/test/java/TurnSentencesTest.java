/** Each sentence on SENTENCES without PHRASES, TURNS, OIL and what is UNDONE, and of promise 7, by itself. */
public final class TurnSentencesTest {
    private static final int NO = TypedRooms.NO, NONE = TypedRooms.NONE;

    public static void main(String[] args) {
        Check.all(check -> {
            all(check);
            going(check);
            looking(check);
            turns(check);
            lamps(check);
            undone(check);
            refusals(check);
        });
    }

    private static void all(Check check) {
        check.holds("take all: of all THINGS that are SEEN as it begins", TurnSentencesTest::takeAllSeen);
        check.holds("and not FIXED, the lowest first, each is taken", TurnSentencesTest::takeAllLowestFirst);
        check.holds("each is taken if from it, PLACE by PLACE, one does not come to YOU then", TurnSentencesTest::takeAllNotCarried);
        check.holds("and it CAN be taken then", TurnSentencesTest::takeAllThatCan);
        check.holds("(17, if none is)", TurnSentencesTest::takeAllNone);
        check.holds("drop all: all whose PLACE is with YOU are dropped", TurnSentencesTest::dropAll);
        check.holds("(17, if there is none)", TurnSentencesTest::dropAllNone);
    }

    private static void takeAllSeen(Check check) {
        Rooms rooms = Check.laid("r1;r1;tb-r01;ta-r01cof;tb-011;tb-r11;tl-r19of;d10e04;");
        check.done(rooms, "take all");
        check.dueRow("how", t -> rooms.thing(t, 2), 2, 0, 1, 0, 0);
        // In the dark nothing but what is held is seen.
        Rooms dark = Check.laid("r0;r1;tb-r01;tc-r11l;d01n;");
        check.dueSaid(dark, "take all", 17);
        check.done(dark, "n", "take all", "s");
        check.dueSaid(dark, "take all", 17);
        check.done(dark, "light lamp", "take all");
        check.due("how", dark.thing(0, 2), 2);
        // What is in open boxes and on shelves is taken as well as these.
        Rooms nested = Check.laid("r1;tf-r01sf;ta-001c;tb-r01;ti-001;te-r01cf;tk-041;");
        check.done(nested, "take all");
        check.dueRow("how", t -> nested.thing(t, 2), 0, 2, 2, 2, 0, 2);
    }

    private static void takeAllLowestFirst(Check check) {
        Rooms rooms = Check.laid("r1;tb-r06;tc-r06;td-r06;");
        check.done(rooms, "take all");
        check.dueRow("how", t -> rooms.thing(t, 2), 2, 2, 0);
        // Not the lightest, nor as many as can be.
        Rooms heavy = Check.laid("r1;tb-r01;tc-r09;td-r03;te-r02;");
        check.done(heavy, "take all");
        check.dueRow("how", t -> heavy.thing(t, 2), 2, 2, 0, 2);
        Rooms fixed = Check.laid("r1;tb-r01f;tc-r01;td-r01f;");
        check.done(fixed, "take all");
        check.dueRow("how", t -> fixed.thing(t, 2), 0, 2, 0);
        // What lies in a box is taken ahead of it, if it is lower.
        Rooms inside = Check.laid("r1;tb-r01;ta-r01c;");
        check.done(inside, "take key", "put key in box", "take all");
        check.dueRow("how", t -> inside.thing(t, 2), 2, 2);
        check.due("with you", inside.count(8), 2);
    }

    private static void takeAllNotCarried(Check check) {
        // The box is taken first: what is in it, and in that, stays there.
        Rooms rooms = Check.laid("r1;ta-r01c;tb-001;te-001s;ti-021;tk-r01;");
        check.done(rooms, "take all");
        check.dueRow("how", t -> rooms.thing(t, 2), 2, 1, 1, 1, 2);
        check.dueRow("where", t -> rooms.thing(t, 3), NONE, 0, 0, 2, NONE);
        check.dueSaid(rooms, "take all", 17);
        // A box that is too much is left, and what is in it is taken.
        Rooms heavy = Check.laid("r1;ta-r09c;tb-004;tk-r02;");
        check.done(heavy, "take all");
        check.dueRow("how", t -> heavy.thing(t, 2), 0, 2, 2);
        check.done(heavy, "drop all");
        check.due("with you", heavy.count(8), 0);
    }

    private static void takeAllThatCan(Check check) {
        Rooms rooms = Check.laid("r1;tb-r09;tc-r04;td-r03;te-r01;");
        check.done(rooms, "take all");
        check.dueRow("how", t -> rooms.thing(t, 2), 2, 0, 2, 0);
        check.due("with you", rooms.count(8), 12);
        // The TOTAL counts, of a box with what is in it.
        Rooms box = Check.laid("r1;tk-r03;ta-r05c;tb-015;td-r09;");
        check.done(box, "take all");
        check.dueRow("how", t -> box.thing(t, 2), 2, 0, 2, 0);
    }

    private static void takeAllNone(Check check) {
        check.dueSaid(Check.laid("r1;"), "take all", 17);
        check.dueSaid(Check.laid("r1;tb-r01f;"), "take all", 17);
        check.dueSaid(Check.laid("r1;ta-r09c;tb-009f;"), "take all", 17);
        Rooms rooms = Check.laid("r1;tb-r09;tc-r04;");
        check.done(rooms, "take all");
        String before = Check.look(rooms);
        check.due("take all, once more", rooms.say(), 17);
        check.dueLook("take all of none", rooms, before);
    }

    private static void dropAll(Check check) {
        Rooms rooms = Check.laid("r1;r0;ta-r01c;tb-001;ti-r01;tk-r01;d01n;");
        check.done(rooms, "take box", "take cup", "n", "drop all");
        check.dueRow("how", t -> rooms.thing(t, 2), 0, 1, 0, 0);
        check.dueRow("where", t -> rooms.thing(t, 3), 1, 0, 1, 0);
        check.due("with you", rooms.count(8), 0);
        check.due("turns", rooms.count(3), 4);
    }

    private static void dropAllNone(Check check) {
        Rooms rooms = Check.laid("r1;tb-r01;");
        Check.type(rooms, "drop all");
        String before = Check.look(rooms);
        check.due("drop all", rooms.say(), 17);
        check.dueLook("drop all of none", rooms, before);
        check.done(rooms, "take key", "drop all");
        check.dueSaid(rooms, "drop all", 17);
    }

    private static void going(Check check) {
        check.holds("go: 12 there is no WAY", TurnSentencesTest::goNowhere);
        check.holds("6 its DOOR is CLOSED", TurnSentencesTest::goByClosed);
        check.holds("go and one of n s e w, or that alone", TurnSentencesTest::go);
    }

    private static void goNowhere(Check check) {
        Rooms rooms = Check.laid("r1;r1;d01e;");
        for (String none : new String[] {"n", "s", "w", "go n", "go s", "go w"}) {
            check.dueSaid(rooms, none, 12);
        }
        check.due("your room", rooms.count(2), 0);
        check.done(rooms, "e");
        for (String none : new String[] {"n", "s", "e", "go e"}) {
            check.dueSaid(rooms, none, 12);
        }
        check.due("turns", rooms.count(3), 1);
        check.due("your room", rooms.count(2), 1);
    }

    private static void goByClosed(Check check) {
        Rooms rooms = Check.laid("r1;r0;r1;tl-r09of;tb-r01;tlar09ofk01;d01n00;d02e02;");
        check.dueSaid(rooms, "n", 6);
        check.dueSaid(rooms, "go n", 6);
        check.dueSaid(rooms, "e", 6);
        check.done(rooms, "take key", "unlock red door with key");
        check.dueSaid(rooms, "e", 6);
        check.dueSaid(rooms, "open door", 4);
        check.done(rooms, "open red door", "e", "close door");
        // From behind, too.
        check.dueSaid(rooms, "w", 6);
        check.done(rooms, "lock door with key");
        check.dueSaid(rooms, "w", 6);
        check.due("your room", rooms.count(2), 2);
    }

    private static void go(Check check) {
        Rooms rooms = Check.laid("r1;r0;r1;tl-r09of;d01n00;d12e;");
        check.done(rooms, "open door", "n");
        check.due("your room", rooms.count(2), 1);
        // In the dark one can go as well.
        check.done(rooms, "go e");
        check.due("your room", rooms.count(2), 2);
        check.done(rooms, "go w", "s");
        check.due("your room", rooms.count(2), 0);
        check.due("turns", rooms.count(3), 5);
    }

    private static void looking(Check check) {
        check.holds("look: 5 YOUR ROOM is not LIT", TurnSentencesTest::lookInTheDark);
        check.holds("TOLD is how many are SEEN (as it is said).", TurnSentencesTest::lookTold);
        check.holds("All these, go and wait leave IT as it is.", TurnSentencesTest::itIsLeft);
        check.holds("wait is done always", TurnSentencesTest::waitAlways);
    }

    private static void lookInTheDark(Check check) {
        Rooms rooms = Check.laid("r0;r1;tc-r11l;d01n;");
        check.dueSaid(rooms, "look", 5);
        check.due("turns", rooms.count(3), 0);
        check.done(rooms, "n", "look", "take lamp", "s");
        check.dueSaid(rooms, "look", 5);
        check.done(rooms, "light lamp", "look", "douse lamp");
        check.dueSaid(rooms, "look", 5);
        check.due("told", rooms.count(4), 1);
    }

    private static void lookTold(Check check) {
        Rooms rooms = Check.laid("r0;r1;tc-r11l;tb-r01;tl-r19of;d01n;d10e02;");
        check.done(rooms, "n", "look");
        check.due("told", rooms.count(4), 2);
        check.done(rooms, "take lamp", "light lamp", "s");
        check.due("oil", rooms.thing(0, 9), 18);
        Check.type(rooms, "wait");
        check.doneAgain(rooms, 17);
        check.due("told stays", rooms.count(4), 2);
        // The last OIL burns in this turn; the lamp, the key and the door were seen as it was said.
        check.done(rooms, "look");
        check.due("oil", rooms.thing(0, 9), 0);
        check.due("seen now", rooms.count(9), 1);
        check.due("told", rooms.count(4), 3);
        Rooms none = Check.laid("r1;");
        check.done(none, "look");
        check.due("told of none", none.count(4), 0);
    }

    private static void itIsLeft(Check check) {
        Rooms rooms = Check.laid("r1;r1;tb-r01;ta-r01;d01n;");
        check.done(rooms, "take key", "drop key");
        for (String sentence : new String[] {"take all", "drop all", "look", "wait", "n", "go s"}) {
            check.done(rooms, sentence);
            check.due("it after " + sentence, rooms.count(5), 0);
        }
        Rooms none = Check.laid("r1;r1;tb-r01;d01n;");
        for (String sentence : new String[] {"take all", "drop all", "look", "wait", "n", "go s"}) {
            check.done(none, sentence);
            check.due("it after " + sentence, none.count(5), NONE);
        }
    }

    private static void waitAlways(Check check) {
        Rooms rooms = Check.laid("r0;");
        Check.type(rooms, "wait");
        check.doneAgain(rooms, 100);
        check.due("turns", rooms.count(3), 100);
        check.due("told", rooms.count(4), 0);
        check.due("can be undone", rooms.count(6), 8);
    }

    private static void turns(Check check) {
        check.holds("SAID: what comes of it: 0 it is done", TurnSentencesTest::turnOfEach);
        check.holds("When a SENTENCE was done, it is a TURN more", TurnSentencesTest::noTurn);
    }

    private static void turnOfEach(Check check) {
        Rooms rooms = Check.laid("r1;r1;tb-r01;ta-r01cok00;tf-r01s;tc-r01l;d01n;");
        int turns = 0;
        for (String sentence : new String[] {"take key", "unlock box with key", "lock box with key", "unlock box with key", "open box",
            "put key in box", "take key from box", "put key on table", "take lamp", "light lamp", "douse lamp", "drop lamp", "look in box",
            "close box", "take all", "drop all", "look", "wait", "n", "go s"}) {
            check.done(rooms, sentence);
            turns++;
            check.due("turns after " + sentence, rooms.count(3), turns);
        }
    }

    private static void noTurn(Check check) {
        Rooms rooms = Check.laid("r1;r1;tb-r01;tb-r01;ta-r01co;tl-r09of;tk-r01f;d01n03;");
        check.done(rooms, "wait");
        String[] said = {"", "xyz", "take", "take rope", "take key", "rope", "take ball", "drop box", "put box in box", "open ball",
            "close box", "look in box", "n", "s", "lock box with key", "drop all", "take box from door", "put ball in box"};
        int[] due = {1, 1, 2, 3, 4, 3, 8, 13, 14, 8, 9, 6, 6, 12, 8, 17, 18, 13};
        for (int i = 0; i < said.length; i++) {
            check.dueSaid(rooms, said[i], due[i]);
            check.due("turns after " + said[i], rooms.count(3), 1);
            check.due("can be undone after " + said[i], rooms.count(6), 1);
        }
        // Looked at and told things take no TURN.
        rooms.fault();
        rooms.wipe();
        rooms.lay();
        rooms.would(0, 0, 0);
        check.due("turns", rooms.count(3), 1);
    }

    private static void lamps(Check check) {
        check.holds("each LAMP that is ON then (one lit just now, too) has 1 OIL less", TurnSentencesTest::burns);
        check.holds("and is OFF, if none is left.", TurnSentencesTest::burnsOut);
    }

    private static void burns(Check check) {
        Rooms rooms = Check.laid("r1;r0;tcar01l;tcbr01l;ta-r01co;tccr01l;d01n;");
        check.done(rooms, "take red lamp", "take blue lamp", "take old lamp");
        check.dueRow("oil", t -> rooms.thing(t, 9), 20, 20, NONE, 20);
        check.done(rooms, "light red lamp");
        check.dueRow("oil", t -> rooms.thing(t, 9), 19, 20, NONE, 20);
        check.done(rooms, "light blue lamp");
        check.dueRow("oil of two", t -> rooms.thing(t, 9), 18, 19, NONE, 20);
        // One that is in a closed box burns, and one that is elsewhere.
        check.done(rooms, "open box", "put red lamp in box", "close box", "drop blue lamp", "n");
        check.dueRow("oil", t -> rooms.thing(t, 9), 13, 14, NONE, 20);
        check.dueSaid(rooms, "light blue lamp", 3);
        check.dueSaid(rooms, "n", 12);
        check.dueSaid(rooms, "xyz", 1);
        check.dueRow("oil after what was not done", t -> rooms.thing(t, 9), 13, 14, NONE, 20);
        // The turn in which it is doused takes nothing.
        check.done(rooms, "s", "douse blue lamp", "wait");
        check.dueRow("oil", t -> rooms.thing(t, 9), 10, 13, NONE, 20);
        check.done(rooms, "take blue lamp", "light blue lamp");
        check.dueRow("oil", t -> rooms.thing(t, 9), 8, 12, NONE, 20);
    }

    private static void burnsOut(Check check) {
        Rooms rooms = Check.laid("r0;r1;tcar11l;tcbr11l;d01n;");
        check.done(rooms, "n", "take all", "s", "light red lamp");
        Check.type(rooms, "wait");
        check.doneAgain(rooms, 9);
        check.done(rooms, "light blue lamp");
        Check.type(rooms, "wait");
        check.doneAgain(rooms, 8);
        check.due("oil", rooms.thing(0, 9), 1);
        check.due("on", rooms.thing(0, 8), 1);
        check.doneAgain(rooms, 1);
        check.due("oil", rooms.thing(0, 9), 0);
        check.due("on", rooms.thing(0, 8), 0);
        check.due("oil of the other", rooms.thing(1, 9), 10);
        check.due("the other is on", rooms.thing(1, 8), 1);
        check.dueSaid(rooms, "douse red lamp", 9);
        check.dueSaid(rooms, "light red lamp", 15);
        Check.type(rooms, "wait");
        check.doneAgain(rooms, 10);
        check.due("oil", rooms.thing(0, 9), 0);
        check.due("on", rooms.thing(1, 8), 0);
        check.due("lit", rooms.room(0, 1), 0);
        // Lit for its last OIL, it is off at once.
        Rooms last = Check.laid("r1;tc-r01l;");
        check.done(last, "take lamp", "light lamp");
        Check.type(last, "wait");
        check.doneAgain(last, 18);
        check.done(last, "douse lamp");
        check.due("oil", last.thing(0, 9), 1);
        check.done(last, "light lamp");
        check.due("oil", last.thing(0, 9), 0);
        check.due("on", last.thing(0, 8), 0);
    }

    private static void undone(Check check) {
        check.holds("UNDONE is the latest that was done", TurnSentencesTest::latestUndone);
        check.holds("(the last 8 can be)", TurnSentencesTest::lastEight);
        check.holds("all THINGS, YOU, OIL, TURNS, IT, TOLD are as ahead of it", TurnSentencesTest::asAhead);
        check.holds("(and there is no DOUBT)", TurnSentencesTest::undoEndsDoubt);
        check.holds("UNDONE: how many more can be. NO.", TurnSentencesTest::howManyMore);
    }

    private static void latestUndone(Check check) {
        Rooms rooms = Check.laid("r1;r1;tb-r01;ti-r01;d01n;");
        check.done(rooms, "take key", "take cup", "n");
        check.dueSaid(rooms, "take cup", 9);
        check.dueSaid(rooms, "e", 12);
        check.due("undo()", rooms.undo(), 2);
        check.due("your room", rooms.count(2), 0);
        check.dueRow("how", t -> rooms.thing(t, 2), 2, 2);
        check.due("undo()", rooms.undo(), 1);
        check.dueRow("how", t -> rooms.thing(t, 2), 2, 0);
        // What is done next is the latest then.
        check.done(rooms, "wait");
        check.due("undo()", rooms.undo(), 1);
        check.due("turns", rooms.count(3), 1);
        check.due("undo()", rooms.undo(), 0);
        check.dueRow("how", t -> rooms.thing(t, 2), 0, 0);
        // All that was taken at once is undone at once.
        check.done(rooms, "take all");
        check.due("undo()", rooms.undo(), 0);
        check.dueRow("how", t -> rooms.thing(t, 2), 0, 0);
    }

    private static void lastEight(Check check) {
        Rooms rooms = Check.laid("r1;r1;r1;r1;r1;r1;d01e;d12e;d23e;d34e;d45e;");
        check.done(rooms, "e", "e", "e", "e", "e", "w", "w", "w");
        check.due("can be undone", rooms.count(6), 8);
        check.done(rooms, "w", "w");
        check.due("can be undone", rooms.count(6), 8);
        int[] room = {1, 2, 3, 4, 5, 4, 3, 2};
        for (int i = 0; i < 8; i++) {
            check.due("undo()", rooms.undo(), 7 - i);
            check.due("your room", rooms.count(2), room[i]);
            check.due("turns", rooms.count(3), 9 - i);
            check.due("can be undone", rooms.count(6), 7 - i);
        }
        check.due("undo() of one more", rooms.undo(), NO);
        check.due("your room", rooms.count(2), 2);
        check.due("turns", rooms.count(3), 2);
        // Then again 8, round the first ones.
        Check.type(rooms, "wait");
        for (int done = 1; done <= 20; done++) {
            check.due("say()", rooms.say(), 0);
            check.due("can be undone", rooms.count(6), Math.min(done, 8));
        }
        for (int more = 7; more >= 0; more--) {
            check.due("undo()", rooms.undo(), more);
        }
        check.due("undo() of one more", rooms.undo(), NO);
        check.due("turns", rooms.count(3), 14);
    }

    /** Each sort of SENTENCE, looked at whole: once done and undone all is as it was. */
    private static void asAhead(Check check) {
        String house = "r1;r1;tb-r01;ta-r01cok00;tc-r01l;tl-r09of;d01n03;";
        String[][] runs = {
            {"take key"}, {"take key", "drop key"}, {"take key", "unlock box with key"}, {"take key", "unlock box with key", "open box"},
            {"take key", "unlock box with key", "open box", "put key in box"}, {"take key", "unlock box with key", "open box", "close box"},
            {"take key", "unlock box with key", "lock box with key"}, {"take key", "unlock box with key", "open box", "look in box"},
            {"take lamp", "light lamp"}, {"take lamp", "light lamp", "douse lamp"}, {"take lamp", "light lamp", "wait"},
            {"take all"}, {"take key", "take all"}, {"take all", "drop all"}, {"look"}, {"look", "wait"}, {"open door", "n"},
            {"open door", "close door"}, {"take lamp", "light lamp", "open door", "n"}, {"look", "take key", "unlock box with key",
                "open box", "put key in box", "take key from box"},
        };
        for (String[] run : runs) {
            Rooms rooms = Check.laid(house);
            for (int i = 0; i + 1 < run.length; i++) {
                check.done(rooms, run[i]);
            }
            String last = run[run.length - 1];
            Check.type(rooms, last);
            String before = Check.look(rooms);
            check.due("say \"" + last + "\"", rooms.say(), 0);
            check.due("undo()", rooms.undo(), run.length - 1);
            check.dueLook("\"" + last + "\", undone,", rooms, before);
        }
        // A lamp that went out is on again, with its last OIL.
        Rooms lamp = Check.laid("r1;tc-r01l;");
        check.done(lamp, "take lamp", "light lamp");
        Check.type(lamp, "wait");
        check.doneAgain(lamp, 19);
        check.due("on", lamp.thing(0, 8), 0);
        check.due("undo()", lamp.undo(), 7);
        check.due("on", lamp.thing(0, 8), 1);
        check.due("oil", lamp.thing(0, 9), 1);
    }

    private static void undoEndsDoubt(Check check) {
        Rooms rooms = Check.laid("r1;tbar01;tbbr01;");
        check.done(rooms, "wait");
        check.dueSaid(rooms, "take key", 4);
        check.due("undo()", rooms.undo(), 0);
        check.due("doubt()", rooms.doubt(), NONE);
        check.due("phrases", rooms.count(10), 0);
        check.due("about", rooms.count(11), NONE);
        check.dueSaid(rooms, "red", 2);
        // What is undone was answered: no DOUBT comes back.
        check.dueSaid(rooms, "take key", 4);
        check.dueSaid(rooms, "red", 0);
        check.due("undo()", rooms.undo(), 0);
        check.due("doubt()", rooms.doubt(), NONE);
        check.due("how", rooms.thing(0, 2), 0);
        check.dueSaid(rooms, "red", 2);
    }

    private static void howManyMore(Check check) {
        Rooms rooms = Check.laid("r1;tbar01;tbbr01;");
        check.due("undo() of none", rooms.undo(), NO);
        check.dueSaid(rooms, "take key", 4);
        String before = Check.look(rooms);
        check.due("undo() of none, in doubt", rooms.undo(), NO);
        check.dueLook("a refused undo()", rooms, before);
        check.dueSaid(rooms, "red", 0);
        check.done(rooms, "wait", "wait");
        check.due("undo()", rooms.undo(), 2);
        check.due("undo()", rooms.undo(), 1);
        check.due("undo()", rooms.undo(), 0);
        check.due("undo()", rooms.undo(), NO);
        check.due("undo() again", rooms.undo(), NO);
        check.due("the text stays", rooms.wipe(), 4);
    }

    private static void refusals(Check check) {
        check.holds("NO: not as things stand.", TurnSentencesTest::refusedUndo);
        check.holds("nothing changes then.", TurnSentencesTest::notDone);
    }

    private static void refusedUndo(Check check) {
        Rooms rooms = Check.laid("r1;tc-r01l;");
        String before = Check.look(rooms);
        check.due("undo()", rooms.undo(), NO);
        check.due("undo()", rooms.undo(), NO);
        check.dueLook("a refused undo()", rooms, before);
        check.done(rooms, "take lamp");
        check.due("undo()", rooms.undo(), 0);
    }

    /** For each REASON a SENTENCE that is not done, with a lamp that burns meanwhile. */
    private static void notDone(Check check) {
        int[] due = {1, 2, 3, 6, 7, 8, 9, 10, 11, 12, 13, 14, 16, 17, 18};
        String[] said = {"take  key", "take the", "take rope", "look in box", "open chest", "take table", "open bag", "take ball",
            "unlock chest with lamp", "s", "drop key", "put lamp in lamp", "lock bag with key", "take all", "take lamp from bag"};
        // 0 key, 1 lamp, 2 chest with lock, 3 box, 4 table, 5 bag with lock, 6 ball.
        String house = "r1;tb-r03;tc-r01l;tg-r09cofk00;ta-r01cof;tf-r01sf;te-r01ofk00;tk-r09;";
        for (int i = 0; i < said.length; i++) {
            Rooms rooms = Check.laid(house);
            check.done(rooms, "take lamp", "light lamp", "take key", "unlock bag with key", "open bag", "drop key");
            if (due[i] == 10 || due[i] == 17) {
                check.done(rooms, "take key");
            }
            notDone(check, rooms, said[i], due[i]);
        }
        // In the dark, and without OIL.
        Rooms dark = Check.laid("r0;r1;tc-r11l;d01n;");
        check.done(dark, "n", "take lamp", "light lamp");
        Check.type(dark, "wait");
        check.doneAgain(dark, 19);
        check.done(dark, "s");
        notDone(check, dark, "look", 5);
        notDone(check, dark, "light lamp", 15);
    }

    private static void notDone(Check check, Rooms rooms, String sentence, int want) {
        Check.type(rooms, sentence);
        String before = Check.look(rooms);
        check.due("say \"" + sentence + "\"", rooms.say(), want);
        check.dueLook("\"" + sentence + "\", not done,", rooms, before);
    }
}
