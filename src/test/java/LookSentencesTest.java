/** Each sentence on PLACES, OUT, LIT, SEEN and TOTAL, and of promises 10 to 15, by itself. */
public final class LookSentencesTest {
    private static final int BAD = TypedRooms.BAD, NO = TypedRooms.NO, NONE = TypedRooms.NONE;
    /** Numbers that a shift, a product or a cast to fewer bits would make into 0 or 1. */
    private static final int[] WRAPPED = {-1, -32, -31, 32, 33, 64, 256, 257, 65536, 65537, 1 << 28, 1 << 30, (1 << 30) + 1,
        Integer.MAX_VALUE, Integer.MIN_VALUE, Integer.MIN_VALUE + 1};

    public static void main(String[] args) {
        Check.all(check -> {
            terms(check);
            things(check);
            rooms(check);
            ways(check);
            counts(check);
        });
    }

    private static void terms(Check check) {
        check.holds("A THING is in a ROOM, in a BOX, on a SHELF, or HELD (that is its PLACE).", LookSentencesTest::places);
        check.holds("It is OUT in a ROOM, if from it, PLACE by PLACE, one comes to that ROOM", LookSentencesTest::outInRooms);
        check.holds("or to YOU, if YOU are there", LookSentencesTest::outWithYou);
        check.holds("by no CLOSED BOX", LookSentencesTest::outByNoClosedBox);
        check.holds("(the THING itself may be one)", LookSentencesTest::closedBoxIsOut);
        check.holds("A ROOM is LIT, if it has LIGHT", LookSentencesTest::litByLight);
        check.holds("or a LAMP that is ON is OUT in it", LookSentencesTest::litByLamp);
        check.holds("SEEN are, if YOUR ROOM is LIT, the THINGS that are OUT in it", LookSentencesTest::seenInLight);
        check.holds("and the DOORS of its WAYS", LookSentencesTest::seenDoors);
        check.holds("else those whose PLACE is with YOU", LookSentencesTest::seenInTheDark);
        check.holds("TOTAL of a THING: its WEIGHT and those of all that is in it, on it, in that and so on.", LookSentencesTest::totals);
    }

    private static void places(Check check) {
        Rooms rooms = Check.laid("r1;r1;tb-r11;ta-r01c;tf-r01s;ti-011;tj-021;tk-r01;");
        check.dueRow("how", t -> rooms.thing(t, 2), 0, 0, 0, 1, 1, 0);
        check.dueRow("where", t -> rooms.thing(t, 3), 1, 0, 0, 1, 2, 0);
        check.done(rooms, "take rope", "drop rope", "take ball");
        check.dueRow("how", t -> rooms.thing(t, 2), 0, 0, 0, 1, 0, 2);
        check.dueRow("where", t -> rooms.thing(t, 3), 1, 0, 0, 1, 0, NONE);
        check.done(rooms, "put ball on table");
        check.due("how", rooms.thing(5, 2), 1);
        check.due("where", rooms.thing(5, 3), 2);
    }

    private static void outInRooms(Check check) {
        Rooms rooms = Check.laid("r1;r1;r1;tb-r11;ta-r11c;tf-011s;ti-021;tj-021;tk-r21;");
        check.dueRow("out", r -> rooms.room(r, 2), 0, 5, 1);
    }

    private static void outWithYou(Check check) {
        Rooms rooms = Check.laid("r1;r1;ta-r01c;tf-001s;ti-011;tk-r11;d01n;");
        check.dueRow("out", r -> rooms.room(r, 2), 3, 1);
        check.done(rooms, "take box");
        check.dueRow("out, held", r -> rooms.room(r, 2), 3, 1);
        check.done(rooms, "n");
        check.dueRow("out, held elsewhere", r -> rooms.room(r, 2), 0, 4);
        check.done(rooms, "drop box", "s");
        check.dueRow("out, left there", r -> rooms.room(r, 2), 0, 4);
    }

    private static void outByNoClosedBox(Check check) {
        // A closed box is no bar but of what is in it, however deep; a closed shelf and a box without o are none.
        Rooms rooms = Check.laid("r1;ta-r01co;te-001c;tb-011;tf-r01so;tc-031;tg-r01c;td-051;");
        check.dueRow("seen", t -> rooms.thing(t, 10), 1, 0, 0, 1, 1, 1, 1);
        check.due("out", rooms.room(0, 2), 5);
        check.done(rooms, "open box");
        check.dueRow("seen", t -> rooms.thing(t, 10), 1, 1, 1, 1, 1, 1, 1);
        check.done(rooms, "close box", "take box");
        check.dueRow("seen in the hand", t -> rooms.thing(t, 10), 1, 0, 0, 1, 1, 1, 1);
        check.done(rooms, "open box");
        check.dueRow("seen in the hand", t -> rooms.thing(t, 10), 1, 1, 1, 1, 1, 1, 1);
        // The inner one is closed, the outer one is not.
        Rooms inner = Check.laid("r1;ta-r01c;te-001co;tb-011;");
        check.dueRow("seen", t -> inner.thing(t, 10), 1, 1, 0);
    }

    private static void closedBoxIsOut(Check check) {
        Rooms rooms = Check.laid("r0;ta-r01co;tcar01col;tb-011;");
        check.due("out", rooms.room(0, 2), 2);
        // A lamp that is a closed box gives light itself.
        Rooms lantern = Check.laid("r1;r0;tcar01col;tb-001;d01n;");
        check.done(lantern, "take lamp", "light it", "n");
        check.due("lit", lantern.room(1, 1), 1);
        check.dueRow("seen", t -> lantern.thing(t, 10), 1, 0);
    }

    private static void litByLight(Check check) {
        Rooms rooms = Check.laid("r0;r1;r0;tc-r01l;d01n;");
        check.dueRow("lit", r -> rooms.room(r, 1), 0, 1, 0, BAD);
        check.dueSaid(rooms, "look", 5);
        check.done(rooms, "n", "look");
        check.dueRow("lit wherever you are", r -> rooms.room(r, 1), 0, 1, 0, BAD);
    }

    private static void litByLamp(Check check) {
        Rooms rooms = Check.laid("r1;r0;r0;tc-r01l;ta-r01co;d01n;d12n;");
        check.done(rooms, "take all", "n");
        check.dueRow("lit by a lamp that is off", r -> rooms.room(r, 1), 1, 0, 0);
        check.done(rooms, "light lamp");
        check.dueRow("lit by the lamp that is held", r -> rooms.room(r, 1), 1, 1, 0);
        check.done(rooms, "drop lamp", "n");
        check.dueRow("lit by the lamp that is there", r -> rooms.room(r, 1), 1, 1, 0);
        check.done(rooms, "s", "take lamp", "open box", "put lamp in box");
        check.dueRow("lit from an open box", r -> rooms.room(r, 1), 1, 1, 0);
        check.done(rooms, "close box");
        check.dueRow("lit from a closed box", r -> rooms.room(r, 1), 1, 0, 0);
        check.due("on all the while", rooms.thing(0, 8), 1);
        check.done(rooms, "open box", "douse lamp");
        check.dueRow("lit by a lamp that is off again", r -> rooms.room(r, 1), 1, 0, 0);
    }

    private static void seenInLight(Check check) {
        Rooms rooms = Check.laid("r1;r1;tb-r01;ta-r01c;tc-011;ti-r11;te-011co;tj-041;d01n;");
        check.dueRow("seen", t -> rooms.thing(t, 10), 1, 1, 1, 0, 1, 0);
        check.due("how many", rooms.count(9), 4);
        check.done(rooms, "take key", "n");
        check.dueRow("seen", t -> rooms.thing(t, 10), 1, 0, 0, 1, 0, 0);
        check.due("how many", rooms.count(9), 2);
        // What you hold is seen in the light as what is there is: by no closed box.
        check.done(rooms, "s", "take bag");
        check.dueRow("seen", t -> rooms.thing(t, 10), 1, 1, 1, 0, 1, 0);
        // A lamp's light is as good as a room's.
        Rooms dark = Check.laid("r1;r0;tc-r01l;tb-r11;d01n;");
        check.done(dark, "take lamp", "n");
        check.dueRow("seen", t -> dark.thing(t, 10), 1, 0);
        check.done(dark, "light lamp");
        check.dueRow("seen", t -> dark.thing(t, 10), 1, 1);
    }

    private static void seenDoors(Check check) {
        Rooms rooms = Check.laid("r1;r1;r1;tl-r09of;tlar09of;tlbr19of;tlcr09of;d01n00;d02e01;d12n02;");
        check.dueRow("seen, one that is no door of a way too", t -> rooms.thing(t, 10), 1, 1, 0, 1);
        check.done(rooms, "open red door", "e");
        check.dueRow("seen from behind", t -> rooms.thing(t, 10), 0, 1, 1, 0);
        check.due("how many", rooms.count(9), 2);
        check.dueRow("out", r -> rooms.room(r, 2), 3, 1, 0);
        check.done(rooms, "close red door", "open it", "open blue door", "w");
        check.dueRow("seen", t -> rooms.thing(t, 10), 1, 1, 0, 1);
        check.due("a door is not counted twice", rooms.count(9), 3);
        // From behind by each side.
        for (char side : "nsew".toCharArray()) {
            Rooms behind = Check.laid("r1;r1;tl-r19of;d10" + side + "00;");
            check.due("seen by " + side + " from behind", behind.thing(0, 10), 1);
            check.due("how many", behind.count(9), 1);
            check.due("out", behind.room(0, 2), 0);
        }
    }

    private static void seenInTheDark(Check check) {
        Rooms rooms = Check.laid("r1;r0;ta-r01c;tb-001;ti-r01;tj-r11;tl-r19of;d01n;d10e04;");
        check.done(rooms, "take box", "take cup", "n");
        check.dueRow("seen", t -> rooms.thing(t, 10), 1, 0, 1, 0, 0);
        check.due("how many", rooms.count(9), 2);
        check.dueSaid(rooms, "open door", 3);
        check.dueSaid(rooms, "take key", 3);
        check.done(rooms, "drop cup");
        check.dueRow("seen", t -> rooms.thing(t, 10), 1, 0, 0, 0, 0);
        check.done(rooms, "drop all");
        check.due("how many", rooms.count(9), 0);
        check.done(rooms, "s");
        check.dueRow("seen where it is light", t -> rooms.thing(t, 10), 0, 0, 0, 0, 1);
    }

    private static void totals(Check check) {
        Rooms rooms = Check.laid("r1;ta-r09co;tf-008s;te-017c;ti-026;tj-005;tk-r04;");
        check.dueRow("total", t -> rooms.thing(t, 5), 35, 21, 13, 6, 5, 4);
        check.dueRow("weight", t -> rooms.thing(t, 4), 9, 8, 7, 6, 5, 4);
        Rooms moved = Check.laid("r1;ta-r01c;tf-r02s;ti-r03;");
        check.done(moved, "take cup", "put cup on table");
        check.dueRow("total", t -> moved.thing(t, 5), 1, 5, 3);
        check.done(moved, "take table", "put table in box");
        check.dueRow("total", t -> moved.thing(t, 5), 6, 5, 3);
        check.done(moved, "take cup");
        check.dueRow("total", t -> moved.thing(t, 5), 3, 2, 3);
        Rooms last = Check.laid("r1;tb-r01;ta-r02c;te-r03c;");
        check.done(last, "take key", "put key in bag", "take bag", "put bag in box");
        check.dueRow("total", t -> last.thing(t, 5), 1, 6, 4);
    }

    private static void things(Check check) {
        check.holds("NOUN (what = 0; 0 for a), ADJECTIVE (1; NONE)", LookSentencesTest::words);
        check.holds("0: it is in a ROOM, 1: in or on a THING, 2: HELD (2), in or on which (3; NONE: HELD)", LookSentencesTest::where);
        check.holds("WEIGHT (4), TOTAL (5)", LookSentencesTest::weightAndTotal);
        check.holds("1: OPEN, 0: CLOSED (6; NONE: no o)", LookSentencesTest::open);
        check.holds("1: LOCKED, 0 (7; NONE: no k)", LookSentencesTest::locked);
        check.holds("1: ON, 0 (8; NONE: no LAMP), OIL (9; NONE)", LookSentencesTest::onAndOil);
        check.holds("1: SEEN, 0 (10)", LookSentencesTest::isSeen);
        check.holds("the KEY (11; NONE)", LookSentencesTest::key);
        check.holds("0: neither, 1: BOX, 2: SHELF (12), 1: FIXED, 0 (13). BAD.", LookSentencesTest::boxShelfFixed);
        check.holds("(ROOMS, THINGS: such as there are)", LookSentencesTest::noSuchThing);
    }

    private static void words(Check check) {
        Rooms rooms = Check.laid("r1;ta-r01;tlhr01;tear01;");
        check.dueRow("noun", t -> rooms.thing(t, 0), 0, 11, 4, BAD);
        check.dueRow("adjective", t -> rooms.thing(t, 1), NONE, 7, 0, BAD);
    }

    private static void where(Check check) {
        Rooms rooms = Check.laid("r1;r1;tb-r01;ta-r11c;tf-r01s;ti-011;tj-021;");
        check.done(rooms, "take key");
        check.dueRow("how", t -> rooms.thing(t, 2), 2, 0, 0, 1, 1, BAD);
        check.dueRow("where", t -> rooms.thing(t, 3), NONE, 1, 0, 1, 2, BAD);
        // What is in a box that is held is not held itself.
        Rooms held = Check.laid("r1;ta-r01c;tb-001;");
        check.done(held, "take box");
        check.dueRow("how", t -> held.thing(t, 2), 2, 1, BAD);
        check.dueRow("where", t -> held.thing(t, 3), NONE, 0, BAD);
    }

    private static void weightAndTotal(Check check) {
        Rooms rooms = Check.laid("r1;ta-r01c;tb-009;ti-r09;");
        check.dueRow("weight", t -> rooms.thing(t, 4), 1, 9, 9, BAD);
        check.dueRow("total", t -> rooms.thing(t, 5), 10, 9, 9, BAD);
    }

    private static void open(Check check) {
        Rooms rooms = Check.laid("r1;ta-r01co;ta-r01c;tl-r01of;tb-r01;");
        check.dueRow("open", t -> rooms.thing(t, 6), 0, NONE, 0, NONE, BAD);
        check.done(rooms, "open box", "open door");
        check.dueRow("open", t -> rooms.thing(t, 6), 1, NONE, 1, NONE, BAD);
        check.done(rooms, "close box");
        check.dueRow("open", t -> rooms.thing(t, 6), 0, NONE, 1, NONE, BAD);
    }

    private static void locked(Check check) {
        Rooms rooms = Check.laid("r1;tb-r01;ta-r01cok00;ta-r01co;");
        check.dueRow("locked", t -> rooms.thing(t, 7), NONE, 1, NONE, BAD);
        check.done(rooms, "take key", "unlock box with key");
        check.dueRow("locked", t -> rooms.thing(t, 7), NONE, 0, NONE, BAD);
        check.done(rooms, "lock box with key");
        check.dueRow("locked", t -> rooms.thing(t, 7), NONE, 1, NONE, BAD);
    }

    private static void onAndOil(Check check) {
        Rooms rooms = Check.laid("r1;tc-r01l;tc-r01;");
        check.dueRow("on", t -> rooms.thing(t, 8), 0, NONE, BAD);
        check.dueRow("oil", t -> rooms.thing(t, 9), 20, NONE, BAD);
        check.done(rooms, "take all", "light lamp");
        check.dueRow("on", t -> rooms.thing(t, 8), 1, NONE, BAD);
        check.dueRow("oil", t -> rooms.thing(t, 9), 19, NONE, BAD);
        Check.type(rooms, "wait");
        check.doneAgain(rooms, 19);
        check.dueRow("on", t -> rooms.thing(t, 8), 0, NONE, BAD);
        check.dueRow("oil, none is left", t -> rooms.thing(t, 9), 0, NONE, BAD);
    }

    private static void isSeen(Check check) {
        Rooms rooms = Check.laid("r1;r1;tb-r01;tb-r11;ta-r01co;tb-021;");
        check.dueRow("seen", t -> rooms.thing(t, 10), 1, 0, 1, 0, BAD);
        check.due("how many", rooms.count(9), 2);
        check.done(rooms, "open box");
        check.dueRow("seen", t -> rooms.thing(t, 10), 1, 0, 1, 1, BAD);
        check.due("how many", rooms.count(9), 3);
    }

    private static void key(Check check) {
        Rooms rooms = Check.laid("r1;tb-r01;ta-r01cok00;tg-r01ok01;ta-r01o;");
        check.dueRow("key", t -> rooms.thing(t, 11), NONE, 0, 1, NONE, BAD);
    }

    private static void boxShelfFixed(Check check) {
        Rooms rooms = Check.laid("r1;ta-r01c;tf-r01sf;tb-r01f;tb-r01;");
        check.dueRow("neither, box or shelf", t -> rooms.thing(t, 12), 1, 2, 0, 0, BAD);
        check.dueRow("fixed", t -> rooms.thing(t, 13), 0, 1, 1, 0, BAD);
        check.due("what = 14", rooms.thing(0, 14), BAD);
        check.due("what = -1", rooms.thing(0, -1), BAD);
        for (int what : WRAPPED) {
            check.due("what = " + what, rooms.thing(0, what), BAD);
        }
    }

    private static void noSuchThing(Check check) {
        Rooms rooms = Check.laid("r1;r1;tb-r01;tb-r01;d01n;");
        for (int what = 0; what <= 13; what++) {
            check.due("thing(2, " + what + ")", rooms.thing(2, what), BAD);
            check.due("thing(-1, " + what + ")", rooms.thing(-1, what), BAD);
        }
        for (int number : WRAPPED) {
            if (number < 0 || number > 1) {
                check.due("thing(" + number + ", 0)", rooms.thing(number, 0), BAD);
                check.due("thing(" + number + ", 10)", rooms.thing(number, 10), BAD);
                check.due("room(" + number + ", 0)", rooms.room(number, 0), BAD);
                check.due("way(" + number + ", 0)", rooms.way(number, 0), BAD);
                check.due("door(" + number + ", 0)", rooms.door(number, 0), BAD);
                check.due("steps(" + number + ", 0, 0)", rooms.steps(number, 0, 0), BAD);
                check.due("steps(0, " + number + ", 0)", rooms.steps(0, number, 0), BAD);
            }
        }
        check.due("thing(15, 0)", rooms.thing(15, 0), BAD);
        check.due("room(2, 0)", rooms.room(2, 0), BAD);
        check.due("room(5, 0)", rooms.room(5, 0), BAD);
        check.due("way(2, 0)", rooms.way(2, 0), BAD);
        check.due("door(2, 0)", rooms.door(2, 0), BAD);
        check.due("steps(2, 2, 0)", rooms.steps(2, 2, 0), BAD);
        check.due("steps(0, 2, 0)", rooms.steps(0, 2, 0), BAD);
        check.due("steps(2, 0, 1)", rooms.steps(2, 0, 1), BAD);
        // The last that there are.
        check.due("thing(1, 0)", rooms.thing(1, 0), 1);
        check.due("room(1, 0)", rooms.room(1, 0), 1);
        check.due("way(1, 1)", rooms.way(1, 1), 0);
        check.due("steps(1, 1, 0)", rooms.steps(1, 1, 0), 0);
        // What was there in a house before is there no more.
        Rooms less = new Rooms();
        Check.type(less, "r1;tb-r01;");
        check.due("lay()", less.lay(), 1);
        check.due("thing(1, 0)", less.thing(1, 0), BAD);
        check.due("room(1, 0)", less.room(1, 0), BAD);
    }

    private static void rooms(Check check) {
        check.holds("Of a ROOM: 1: it has LIGHT, 0 (what = 0), 1: it is LIT, 0 (1)", LookSentencesTest::lightAndLit);
        check.holds("how many THINGS are OUT in it (2)", LookSentencesTest::howManyOut);
        check.holds("in it, in what is in it and so on (3). BAD.", LookSentencesTest::howManyIn);
    }

    private static void lightAndLit(Check check) {
        Rooms rooms = Check.laid("r1;r0;r0;tc-r01l;d01n;");
        check.done(rooms, "take lamp", "light lamp", "n");
        check.dueRow("light", r -> rooms.room(r, 0), 1, 0, 0, BAD);
        check.dueRow("lit", r -> rooms.room(r, 1), 1, 1, 0, BAD);
        check.due("room(0, 4)", rooms.room(0, 4), BAD);
        for (int what : WRAPPED) {
            check.due("room(0, " + what + ")", rooms.room(0, what), BAD);
        }
    }

    private static void howManyOut(Check check) {
        Rooms rooms = Check.laid("r1;r0;tb-r01;ta-r01co;tb-011;tb-011;tc-r11;tl-r09of;d01n;d01e05;");
        // The door is out where it is told to be alone, and in the dark as in the light.
        check.dueRow("out", r -> rooms.room(r, 2), 3, 1, BAD);
        check.done(rooms, "open box");
        check.dueRow("out", r -> rooms.room(r, 2), 5, 1, BAD);
        check.done(rooms, "take box", "n");
        check.dueRow("out", r -> rooms.room(r, 2), 2, 4, BAD);
    }

    private static void howManyIn(Check check) {
        Rooms rooms = Check.laid("r1;r1;tb-r01;ta-r01co;te-011co;ti-021;tj-r11;d01n;");
        check.dueRow("in it", r -> rooms.room(r, 3), 4, 1, BAD);
        check.done(rooms, "n", "s");
        check.dueRow("in it, closed or not, wherever you are", r -> rooms.room(r, 3), 4, 1, BAD);
        check.done(rooms, "take box");
        check.dueRow("in it, what is held is not", r -> rooms.room(r, 3), 1, 1, BAD);
        check.done(rooms, "n");
        check.dueRow("in it, what is held is not", r -> rooms.room(r, 3), 1, 1, BAD);
        check.done(rooms, "drop box");
        check.dueRow("in it", r -> rooms.room(r, 3), 1, 4, BAD);
        check.due("an empty room", Check.laid("r1;r1;tb-r01;").room(1, 3), 0);
    }

    private static void ways(Check check) {
        check.holds("Where a WAY from a ROOM leads (0 n, 1 s, 2 e, 3 w). BAD; NONE.", LookSentencesTest::leads);
        check.holds("Its DOOR. BAD; NO: no WAY; NONE: it has none.", LookSentencesTest::doors);
        check.holds("The fewest WAYS from a ROOM to another one", LookSentencesTest::fewest);
        check.holds("(0, if they are one)", LookSentencesTest::oneRoom);
        check.holds("by no CLOSED DOOR (which = 0), by any (1)", LookSentencesTest::byDoors);
        check.holds("NONE: there is no such way.", LookSentencesTest::noSuchWay);
    }

    private static void leads(Check check) {
        Rooms rooms = Check.laid("r1;r1;r1;r1;r1;r1;d51n;d02s;d03e;d04w;");
        check.dueRow("way from 0,", by -> rooms.way(0, by), NONE, 2, 3, 4, BAD);
        check.dueRow("way from 1,", by -> rooms.way(1, by), NONE, 5, NONE, NONE, BAD);
        check.dueRow("way from 2,", by -> rooms.way(2, by), 0, NONE, NONE, NONE, BAD);
        check.dueRow("way from 3,", by -> rooms.way(3, by), NONE, NONE, NONE, 0, BAD);
        check.dueRow("way from 4,", by -> rooms.way(4, by), NONE, NONE, 0, NONE, BAD);
        check.dueRow("way from 5,", by -> rooms.way(5, by), 1, NONE, NONE, NONE, BAD);
        // By -1 from 1 is not by w from 0, nor by 4 from 0 by n from 1.
        check.due("way(1, -1)", rooms.way(1, -1), BAD);
        check.due("way(4, 4)", rooms.way(4, 4), BAD);
        for (int by : WRAPPED) {
            check.due("way(0, " + by + ")", rooms.way(0, by), BAD);
        }
        check.due("way(6, 0)", rooms.way(6, 0), BAD);
        check.due("way(6, 4)", rooms.way(6, 4), BAD);
    }

    private static void doors(Check check) {
        Rooms rooms = Check.laid("r1;r1;r1;tl-r09of;tl-r19of;d01n00;d02e;d12n01;");
        check.dueRow("door from 0,", by -> rooms.door(0, by), 0, NO, NONE, NO, BAD);
        check.dueRow("door from 1,", by -> rooms.door(1, by), 1, 0, NO, NO, BAD);
        check.dueRow("door from 2,", by -> rooms.door(2, by), NO, 1, NO, NONE, BAD);
        check.due("door(1, -1)", rooms.door(1, -1), BAD);
        check.due("door(3, 0)", rooms.door(3, 0), BAD);
        for (int by : WRAPPED) {
            check.due("door(0, " + by + ")", rooms.door(0, by), BAD);
        }
    }

    private static void fewest(Check check) {
        Rooms row = Check.laid("r1;r1;r1;r1;r1;r1;d01n;d12n;d23n;d34n;d45n;");
        check.dueRow("steps from 0 to", b -> row.steps(0, b, 0), 0, 1, 2, 3, 4, 5, BAD);
        check.dueRow("steps from 5 to", b -> row.steps(5, b, 1), 5, 4, 3, 2, 1, 0, BAD);
        Rooms ring = Check.laid("r1;r1;r1;r1;r1;r1;d01n;d12n;d23n;d34n;d45n;d50e;d13e;");
        check.dueRow("steps from 0 to", b -> ring.steps(0, b, 0), 0, 1, 2, 2, 2, 1, BAD);
        check.dueRow("steps from 2 to", b -> ring.steps(2, b, 1), 2, 1, 0, 1, 2, 3, BAD);
    }

    private static void oneRoom(Check check) {
        Rooms rooms = Check.laid("r1;r0;r1;d01n;");
        for (int which = 0; which <= 1; which++) {
            for (int room = 0; room < 3; room++) {
                check.due("steps(" + room + ", " + room + ", " + which + ")", rooms.steps(room, room, which), 0);
            }
        }
        check.due("steps(3, 3, 0)", rooms.steps(3, 3, 0), BAD);
        check.due("steps(0, 0, 2)", rooms.steps(0, 0, 2), BAD);
        check.due("steps(0, 0, -1)", rooms.steps(0, 0, -1), BAD);
        for (int which : WRAPPED) {
            check.due("steps(0, 0, " + which + ")", rooms.steps(0, 0, which), BAD);
        }
    }

    private static void byDoors(Check check) {
        Rooms rooms = Check.laid("r1;r1;r1;tl-r09of;tb-r01;tl-r19ofk01;d01n00;d12n02;");
        check.dueRow("steps by no closed door from 0 to", b -> rooms.steps(0, b, 0), 0, NONE, NONE, BAD);
        check.dueRow("steps by any from 0 to", b -> rooms.steps(0, b, 1), 0, 1, 2, BAD);
        check.dueRow("steps by no closed door from 2 to", b -> rooms.steps(2, b, 0), NONE, NONE, 0, BAD);
        check.done(rooms, "open door");
        check.dueRow("steps by no closed door from 0 to", b -> rooms.steps(0, b, 0), 0, 1, NONE, BAD);
        check.dueRow("steps by no closed door from 1 to", b -> rooms.steps(1, b, 0), 1, 0, NONE, BAD);
        check.done(rooms, "close door");
        check.dueRow("steps by no closed door from 1 to", b -> rooms.steps(1, b, 0), NONE, 0, NONE, BAD);
        // Round about is further, but by no closed door.
        Rooms round = Check.laid("r1;r1;r1;tl-r09of;d01n00;d02e;d21e;");
        check.due("steps by no closed door", round.steps(0, 1, 0), 2);
        check.due("steps by any", round.steps(0, 1, 1), 1);
    }

    private static void noSuchWay(Check check) {
        Rooms rooms = Check.laid("r1;r1;r1;r1;d01n;d23n;");
        for (int which = 0; which <= 1; which++) {
            int by = which;
            check.dueRow("steps from 0 to", b -> rooms.steps(0, b, by), 0, 1, NONE, NONE, BAD);
            check.dueRow("steps from 3 to", b -> rooms.steps(3, b, by), NONE, NONE, 1, 0, BAD);
        }
        check.due("steps of a house without ways", Check.laid("r1;r1;").steps(0, 1, 1), NONE);
    }

    private static void counts(Check check) {
        check.holds("How many: 0 ROOMS, 1 THINGS, 2 YOUR ROOM, 3 TURNS, 4 TOLD, 5 IT (NONE), 6 that can be UNDONE", LookSentencesTest::counted);
        check.holds("7 letters of THE TEXT", LookSentencesTest::lettersCounted);
        check.holds("8 TOTALS of all that is HELD together", LookSentencesTest::heldCounted);
        check.holds("9 SEEN", LookSentencesTest::isSeen);
        check.holds("10 how many PHRASES the SENTENCE in doubt has (0: no DOUBT)", LookSentencesTest::phrasesCounted);
        check.holds("11 which one of these the DOUBT is about (1, 2; NONE). BAD.", LookSentencesTest::doubtCounted);
        check.holds("what would be, what is seen, which rooms can be reached", LookSentencesTest::looksChangeNothing);
    }

    private static void counted(Check check) {
        Rooms rooms = Check.laid("r1;r1;tb-r01;ta-r01c;ti-r01;d01n;");
        check.dueRow("count", rooms::count, 2, 3, 0, 0, 0, NONE, 0);
        check.done(rooms, "look");
        check.dueRow("count", rooms::count, 2, 3, 0, 1, 3, NONE, 1);
        check.done(rooms, "take cup");
        check.dueRow("count", rooms::count, 2, 3, 0, 2, 3, 2, 2);
        check.done(rooms, "n");
        check.dueRow("count", rooms::count, 2, 3, 1, 3, 3, 2, 3);
        // IT is told whether it is seen or not.
        check.done(rooms, "drop cup", "s");
        check.dueRow("count", rooms::count, 2, 3, 0, 5, 3, 2, 5);
        check.done(rooms, "take key");
        check.due("it", rooms.count(5), 0);
    }

    private static void lettersCounted(Check check) {
        Rooms rooms = new Rooms();
        check.due("letters", rooms.count(7), 0);
        for (int length = 1; length <= 240; length++) {
            rooms.write('x');
            check.due("letters", rooms.count(7), length);
        }
        rooms.write('x');
        check.due("letters", rooms.count(7), 240);
        rooms.wipe();
        check.due("letters", rooms.count(7), 0);
    }

    private static void heldCounted(Check check) {
        Rooms rooms = Check.laid("r1;r1;ta-r01c;tb-002;tf-r03s;ti-r14;d01n;");
        check.due("with you", rooms.count(8), 0);
        check.done(rooms, "take box");
        check.due("with you", rooms.count(8), 3);
        check.done(rooms, "take table");
        check.due("with you", rooms.count(8), 6);
        check.done(rooms, "put box on table");
        check.due("with you", rooms.count(8), 6);
        check.done(rooms, "n", "take cup");
        check.due("with you", rooms.count(8), 10);
        check.done(rooms, "drop table");
        check.due("with you", rooms.count(8), 4);
        check.done(rooms, "drop all");
        check.due("with you", rooms.count(8), 0);
    }

    private static void phrasesCounted(Check check) {
        Rooms rooms = Check.laid("r1;tbar01;tbbr01;ta-r01c;ta-r01c;");
        check.due("phrases", rooms.count(10), 0);
        check.dueSaid(rooms, "take key", 4);
        check.due("phrases", rooms.count(10), 1);
        check.done(rooms, "red");
        check.due("phrases", rooms.count(10), 0);
        check.dueSaid(rooms, "put key in box", 4);
        check.due("phrases", rooms.count(10), 2);
        check.done(rooms, "take blue key");
        check.due("phrases", rooms.count(10), 0);
        check.dueSaid(rooms, "put key in box", 4);
        check.due("phrases", rooms.count(10), 2);
    }

    private static void doubtCounted(Check check) {
        Rooms rooms = Check.laid("r1;tbar01;tbbr01;taar01c;tabr01c;");
        check.due("about", rooms.count(11), NONE);
        check.dueSaid(rooms, "take key", 4);
        check.due("about", rooms.count(11), 1);
        check.done(rooms, "red");
        check.due("about", rooms.count(11), NONE);
        check.dueSaid(rooms, "put key in box", 4);
        check.due("about", rooms.count(11), 2);
        check.done(rooms, "take blue key");
        check.due("about", rooms.count(11), NONE);
        check.dueSaid(rooms, "put key in box", 4);
        check.due("about", rooms.count(11), 1);
        check.dueSaid(rooms, "blue", 4);
        check.due("about", rooms.count(11), 2);
        check.due("count(12)", rooms.count(12), BAD);
        check.due("count(-1)", rooms.count(-1), BAD);
        for (int what : WRAPPED) {
            check.due("count(" + what + ")", rooms.count(what), BAD);
        }
    }

    /** Of all that is looked at, right or wrong. */
    private static void looksChangeNothing(Check check) {
        Rooms rooms = Check.laid("r1;tbar01;tbbr01;ta-r01c;");
        check.done(rooms, "take red key", "put it in box");
        check.dueSaid(rooms, "take key", 4);
        String before = Check.look(rooms);
        check.dueLook("a look", rooms, before);
        for (int wrong : new int[] {-1, 99}) {
            rooms.thing(wrong, wrong);
            rooms.room(wrong, wrong);
            rooms.way(wrong, wrong);
            rooms.door(wrong, wrong);
            rooms.steps(wrong, 0, 0);
            rooms.count(wrong);
            rooms.would(wrong, wrong, wrong);
        }
        rooms.steps(0, 0, 0);
        rooms.would(0, 1, 0);
        rooms.fault();
        check.dueLook("looks that are BAD", rooms, before);
        check.done(rooms, "blue");
    }
}
