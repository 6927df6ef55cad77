/** Each sentence on the ACTS, their REASONS in order, what comes of each, and of promise 9, by itself. */
public final class ActSentencesTest {
    private static final int BAD = TypedRooms.BAD, NONE = TypedRooms.NONE;
    private static final int TAKE = 0, DROP = 1, PUT_IN = 2, PUT_ON = 3, OPEN = 4, CLOSE = 5, LOCK = 6, UNLOCK = 7,
        LIGHT = 8, DOUSE = 9, LOOK_IN = 10, TAKE_FROM = 11;

    public static void main(String[] args) {
        Check.all(check -> {
            taking(check);
            dropping(check);
            putting(check);
            opening(check);
            locking(check);
            lighting(check);
            looking(check);
            wouldBe(check);
        });
    }

    /** The REASON is told by both, would() and say(). */
    private static void reason(Check check, Rooms rooms, int act, int[] things, String sentence, int want) {
        int y = things.length > 1 ? things[1] : 0;
        check.due("would(" + act + ", " + things[0] + ", " + y + ")", rooms.would(act, things[0], y), want);
        check.dueSaid(rooms, sentence, want);
    }

    private static int[] with(int... things) {
        return things;
    }

    private static void taking(Check check) {
        check.holds("0 take x: 8 it is FIXED", ActSentencesTest::takeFixed);
        check.holds("9 its PLACE is with YOU", ActSentencesTest::takeHeld);
        check.holds("10 the TOTALS of all HELD, and that of x", ActSentencesTest::takeTooMuch);
        check.holds("(not, if from it, PLACE by PLACE, one comes to YOU), are more than 12.", ActSentencesTest::takeWhatYouCarry);
        check.holds("It is HELD then.", ActSentencesTest::taken);
    }

    private static void takeFixed(Check check) {
        Rooms rooms = Check.laid("r1;tb-r01f;ti-r09;tj-r09f;");
        reason(check, rooms, TAKE, with(0), "take key", 8);
        check.done(rooms, "take cup");
        // Ahead of too much.
        reason(check, rooms, TAKE, with(2), "take rope", 8);
        // What is fixed in a thing that is carried.
        Rooms bag = Check.laid("r1;te-r01c;tb-001f;");
        check.done(bag, "take bag");
        reason(check, bag, TAKE, with(1), "take key", 8);
    }

    private static void takeHeld(Check check) {
        Rooms rooms = Check.laid("r1;tb-r09;te-r01c;ti-011;");
        check.done(rooms, "take key");
        reason(check, rooms, TAKE, with(0), "take key", 9);
        check.done(rooms, "take bag");
        reason(check, rooms, TAKE, with(1), "take bag", 9);
        // What is in a bag that is held is not held.
        reason(check, rooms, TAKE, with(2), "take cup", 0);
        reason(check, rooms, TAKE, with(2), "take cup", 9);
    }

    private static void takeTooMuch(Check check) {
        Rooms rooms = Check.laid("r1;tb-r09;tc-r03;td-r04;te-r01;");
        check.done(rooms, "take key");
        check.due("to 12", rooms.would(TAKE, 1, 0), 0);
        reason(check, rooms, TAKE, with(2), "take coin", 10);
        check.done(rooms, "take lamp");
        reason(check, rooms, TAKE, with(3), "take bag", 10);
        check.done(rooms, "drop lamp");
        reason(check, rooms, TAKE, with(3), "take bag", 0);
        // What is in x counts, and what is in what is held.
        Rooms full = Check.laid("r1;ta-r01c;te-001c;td-019;tj-r01s;ti-031;tk-r02;");
        check.due("to 11", full.would(TAKE, 0, 0), 0);
        check.done(full, "take box");
        reason(check, full, TAKE, with(3), "take rope", 10);
        check.due("11 and what is on it", full.would(TAKE, 4, 0), 0);
        reason(check, full, TAKE, with(5), "take ball", 10);
        check.done(full, "take cup");
        reason(check, full, TAKE, with(3), "take rope", 10);
        // One alone may be too much.
        Rooms alone = Check.laid("r1;ta-r09c;tb-004;");
        reason(check, alone, TAKE, with(0), "take box", 10);
        reason(check, alone, TAKE, with(1), "take key", 0);
        reason(check, alone, TAKE, with(0), "take box", 10);
        Rooms twelve = Check.laid("r1;ta-r09c;tb-003;");
        reason(check, twelve, TAKE, with(0), "take box", 0);
    }

    private static void takeWhatYouCarry(Check check) {
        Rooms rooms = Check.laid("r1;ta-r01c;te-001c;td-019;tb-r01;ti-r01;");
        check.done(rooms, "take box", "take key");
        check.due("with you", rooms.count(8), 12);
        reason(check, rooms, TAKE, with(4), "take cup", 10);
        check.due("of the bag in the box", rooms.would(TAKE, 1, 0), 0);
        reason(check, rooms, TAKE, with(2), "take coin", 0);
        check.due("with you", rooms.count(8), 12);
        reason(check, rooms, TAKE, with(1), "take bag", 0);
        check.due("with you", rooms.count(8), 12);
    }

    private static void taken(Check check) {
        Rooms rooms = Check.laid("r1;r1;ta-r01c;tb-001;d01n;");
        check.done(rooms, "take key");
        check.dueRow("how", t -> rooms.thing(t, 2), 0, 2);
        check.done(rooms, "take box", "put key in box", "n");
        check.dueRow("how", t -> rooms.thing(t, 2), 2, 1);
        check.due("what was in it stays in it", rooms.thing(1, 3), 0);
        check.due("it", rooms.count(5), 1);
        check.done(rooms, "take key");
        check.dueRow("how", t -> rooms.thing(t, 2), 2, 2);
    }

    private static void dropping(Check check) {
        check.holds("1 drop x: 13 its PLACE is not with YOU.", ActSentencesTest::dropNotHeld);
        check.holds("It is in YOUR ROOM then.", ActSentencesTest::dropped);
    }

    private static void dropNotHeld(Check check) {
        Rooms rooms = Check.laid("r1;te-r01c;tb-001;ti-r01f;");
        reason(check, rooms, DROP, with(0), "drop bag", 13);
        reason(check, rooms, DROP, with(2), "drop cup", 13);
        check.done(rooms, "take bag");
        reason(check, rooms, DROP, with(1), "drop key", 13);
        reason(check, rooms, DROP, with(0), "drop bag", 0);
        reason(check, rooms, DROP, with(0), "drop bag", 13);
    }

    private static void dropped(Check check) {
        Rooms rooms = Check.laid("r1;r0;ta-r01c;tb-001;d01n;");
        check.done(rooms, "take box", "n", "drop box");
        check.dueRow("how", t -> rooms.thing(t, 2), 0, 1);
        check.dueRow("where", t -> rooms.thing(t, 3), 1, 0);
        check.due("with you", rooms.count(8), 0);
        check.due("it", rooms.count(5), 0);
    }

    private static void putting(Check check) {
        check.holds("14 x is y, or y is in x (or on it, or in what is, and so on)", ActSentencesTest::putInItself);
        check.holds("13 x's PLACE is not with YOU", ActSentencesTest::putNotHeld);
        check.holds("8 y is no BOX", ActSentencesTest::putInNoBox);
        check.holds("6 y is CLOSED", ActSentencesTest::putInClosed);
        check.holds("10 the TOTALS of x and all in y are more than 12.", ActSentencesTest::putTooMuch);
        check.holds("3 put x on y: 14, 13, 8 y is no SHELF, 10 likewise.", ActSentencesTest::putOn);
        check.holds("put P in Q", ActSentencesTest::put);
    }

    private static void putInItself(Check check) {
        // 0 box, 1 table in it, 2 bag on that, 3 cup in that; 4 key.
        String house = "r1;ta-r01c;tf-001s;te-011c;ti-021;tb-r01;";
        Rooms rooms = Check.laid(house);
        // Ahead of 13, and of 8.
        reason(check, rooms, PUT_IN, with(0, 0), "put box in box", 14);
        reason(check, rooms, PUT_IN, with(0, 1), "put box in table", 14);
        reason(check, rooms, PUT_IN, with(0, 2), "put box in bag", 14);
        reason(check, rooms, PUT_IN, with(0, 3), "put box in cup", 14);
        reason(check, rooms, PUT_IN, with(1, 2), "put table in bag", 14);
        reason(check, rooms, PUT_IN, with(4, 4), "put key in key", 14);
        Rooms held = Check.laid(house);
        check.done(held, "take box");
        reason(check, held, PUT_IN, with(0, 0), "put box in box", 14);
        reason(check, held, PUT_IN, with(0, 2), "put box in bag", 14);
        // What is not in it, but it in that, is none of this.
        reason(check, held, PUT_IN, with(3, 0), "put cup in box", 13);
        check.done(held, "take cup", "put cup in box");
        // Closed y, and too much.
        Rooms other = Check.laid("r1;ta-r07co;te-r01co;tb-r06;");
        check.done(other, "take box");
        reason(check, other, PUT_IN, with(0, 0), "put box in box", 14);
    }

    private static void putNotHeld(Check check) {
        // 0 key in a bag, 2 box that is closed, 3 cup, 4 what weighs too much.
        Rooms rooms = Check.laid("r1;te-r01c;tb-001;ta-r01co;ti-r01;tj-r09;tg-r01c;tk-059;");
        reason(check, rooms, PUT_IN, with(1, 0), "put key in bag", 13);
        check.done(rooms, "take bag");
        reason(check, rooms, PUT_IN, with(1, 0), "put key in bag", 13);
        // Ahead of 8, of 6 and of 10.
        reason(check, rooms, PUT_IN, with(1, 3), "put key in cup", 13);
        reason(check, rooms, PUT_IN, with(3, 2), "put cup in box", 13);
        reason(check, rooms, PUT_IN, with(4, 5), "put rope in chest", 13);
    }

    private static void putInNoBox(Check check) {
        // Ahead of 6: a closed shelf, a closed door; ahead of 10: a table that is full.
        Rooms rooms = Check.laid("r1;tb-r04;ti-r01;tf-r01s;tg-r01so;tl-r01of;tj-029;");
        check.done(rooms, "take key");
        reason(check, rooms, PUT_IN, with(0, 1), "put key in cup", 8);
        reason(check, rooms, PUT_IN, with(0, 2), "put key in table", 8);
        reason(check, rooms, PUT_IN, with(0, 3), "put key in chest", 8);
        reason(check, rooms, PUT_IN, with(0, 4), "put key in door", 8);
    }

    private static void putInClosed(Check check) {
        Rooms rooms = Check.laid("r1;tb-r04;ta-r01co;tj-019;ti-r01c;");
        check.done(rooms, "take key");
        // Ahead of 10.
        reason(check, rooms, PUT_IN, with(0, 1), "put key in box", 6);
        check.done(rooms, "open box");
        reason(check, rooms, PUT_IN, with(0, 1), "put key in box", 10);
        check.done(rooms, "close box");
        reason(check, rooms, PUT_IN, with(0, 1), "put key in box", 6);
        // A box without o is not closed.
        reason(check, rooms, PUT_IN, with(0, 3), "put key in cup", 0);
    }

    private static void putTooMuch(Check check) {
        // 0 box that weighs 9 itself, with 1 bag and 2 coin in that: 8 in all.
        Rooms rooms = Check.laid("r1;ta-r09c;te-003c;td-015;tb-r04;ti-r05;tj-r01c;tk-053;tg-r01c;");
        check.done(rooms, "take key");
        check.due("8 and 4", rooms.would(PUT_IN, 3, 0), 0);
        check.done(rooms, "take cup");
        reason(check, rooms, PUT_IN, with(4, 0), "put cup in box", 10);
        // 5 in the bag and 5.
        check.due("5 and 5", rooms.would(PUT_IN, 4, 1), 0);
        check.done(rooms, "put key in box");
        reason(check, rooms, PUT_IN, with(4, 0), "put cup in box", 10);
        // What is in x counts too: 4 of rope and ball.
        Rooms full = Check.laid("r1;ta-r01c;td-009;tj-r01c;tk-023;ti-r03;");
        check.done(full, "take rope", "take cup");
        reason(check, full, PUT_IN, with(2, 0), "put rope in box", 10);
        check.due("without what is in it", full.would(PUT_IN, 4, 0), 0);
        check.done(full, "take ball", "put rope in box");
        reason(check, full, PUT_IN, with(4, 0), "put cup in box", 10);
    }

    private static void putOn(Check check) {
        // 0 shelf, 1 box on it, 2 cup in that; 3 key, 4 box that is closed, 5 shelf that is closed and holds 9.
        Rooms rooms = Check.laid("r1;tf-r01s;ta-001c;ti-011;tb-r03;te-r01co;tg-r01so;tj-059;tk-r01;");
        reason(check, rooms, PUT_ON, with(0, 0), "put table on table", 14);
        reason(check, rooms, PUT_ON, with(0, 1), "put table on box", 14);
        reason(check, rooms, PUT_ON, with(0, 2), "put table on cup", 14);
        reason(check, rooms, PUT_ON, with(3, 0), "put key on table", 13);
        reason(check, rooms, PUT_ON, with(3, 1), "put key on box", 13);
        reason(check, rooms, PUT_ON, with(6, 5), "put rope on chest", 13);
        check.done(rooms, "take key", "take ball");
        reason(check, rooms, PUT_ON, with(3, 1), "put key on box", 8);
        reason(check, rooms, PUT_ON, with(3, 4), "put key on bag", 8);
        reason(check, rooms, PUT_ON, with(3, 2), "put key on cup", 8);
        check.due("9 and 3", rooms.would(PUT_ON, 3, 5), 0);
        // A shelf that is closed is no less a shelf; then 12 and 1 are too much, not 2 and 1.
        check.done(rooms, "put key on chest");
        check.due("where", rooms.thing(3, 3), 5);
        reason(check, rooms, PUT_ON, with(7, 5), "put ball on chest", 10);
        reason(check, rooms, PUT_ON, with(7, 0), "put ball on table", 0);
        check.due("where", rooms.thing(7, 3), 0);
    }

    private static void put(Check check) {
        Rooms rooms = Check.laid("r1;r1;ta-r01c;tb-r01;te-r01c;d01n;");
        check.done(rooms, "take key", "take bag", "put key in bag", "put bag in box");
        check.dueRow("how", t -> rooms.thing(t, 2), 0, 1, 1);
        check.dueRow("where", t -> rooms.thing(t, 3), 0, 2, 0);
        check.due("with you", rooms.count(8), 0);
        check.due("it is of the first phrase", rooms.count(5), 2);
    }

    private static void opening(Check check) {
        check.holds("4 open x: 8 it has no o; 9 it is OPEN; 7 it is LOCKED.", ActSentencesTest::open);
        check.holds("5 close x: 8 it has no o; 9 it is CLOSED.", ActSentencesTest::close);
    }

    private static void open(Check check) {
        Rooms rooms = Check.laid("r1;tb-r01;ta-r01c;te-r01co;tg-r01cok00;tf-r01so;");
        reason(check, rooms, OPEN, with(0), "open key", 8);
        reason(check, rooms, OPEN, with(1), "open box", 8);
        reason(check, rooms, OPEN, with(3), "open chest", 7);
        reason(check, rooms, OPEN, with(2), "open bag", 0);
        check.due("is open", rooms.thing(2, 6), 1);
        check.due("it", rooms.count(5), 2);
        reason(check, rooms, OPEN, with(2), "open bag", 9);
        reason(check, rooms, OPEN, with(4), "open table", 0);
        check.done(rooms, "take key", "unlock chest with key");
        reason(check, rooms, OPEN, with(3), "open chest", 0);
        reason(check, rooms, OPEN, with(3), "open chest", 9);
    }

    private static void close(Check check) {
        Rooms rooms = Check.laid("r1;tb-r01;ta-r01c;te-r01co;tg-r01cok00;");
        reason(check, rooms, CLOSE, with(0), "close key", 8);
        reason(check, rooms, CLOSE, with(1), "close box", 8);
        reason(check, rooms, CLOSE, with(2), "close bag", 9);
        reason(check, rooms, CLOSE, with(3), "close chest", 9);
        check.done(rooms, "open bag", "close bag");
        check.due("is open", rooms.thing(2, 6), 0);
        check.due("it", rooms.count(5), 2);
        reason(check, rooms, CLOSE, with(2), "close bag", 9);
        // To close is not to lock.
        check.done(rooms, "take key", "unlock chest with key", "open chest", "close chest");
        check.due("locked", rooms.thing(3, 7), 0);
        check.done(rooms, "open chest");
    }

    private static void locking(Check check) {
        check.holds("6 lock x by y: 8 x has no k; 16 it is OPEN; 9 it is LOCKED; 13 y's PLACE is not with YOU; 11 y is not its KEY.",
            ActSentencesTest::lock);
        check.holds("7 unlock x by y: 8 x has no k; 9 it is not LOCKED; 13, 11 likewise.", ActSentencesTest::unlock);
    }

    private static void lock(Check check) {
        // 0 key, 1 another, 2 chest that 0 fits, 3 box with o and 4 bag without.
        Rooms rooms = Check.laid("r1;tbar01;tbbr01;tg-r01cok00;ta-r01co;te-r01c;");
        reason(check, rooms, LOCK, with(3, 0), "lock box with red key", 8);
        reason(check, rooms, LOCK, with(4, 0), "lock bag with red key", 8);
        // 9 is ahead of 13 and of 11.
        reason(check, rooms, LOCK, with(2, 0), "lock chest with red key", 9);
        reason(check, rooms, LOCK, with(2, 1), "lock chest with blue key", 9);
        check.done(rooms, "take red key", "unlock chest with red key", "open chest", "drop red key");
        // 16 is ahead of 13.
        reason(check, rooms, LOCK, with(2, 0), "lock chest with red key", 16);
        // 16 is ahead of 11.
        check.done(rooms, "take blue key");
        reason(check, rooms, LOCK, with(2, 1), "lock chest with blue key", 16);
        check.done(rooms, "drop blue key", "close chest");
        // 13 is ahead of 11.
        reason(check, rooms, LOCK, with(2, 1), "lock chest with blue key", 13);
        reason(check, rooms, LOCK, with(2, 0), "lock chest with red key", 13);
        check.done(rooms, "take blue key", "take red key");
        reason(check, rooms, LOCK, with(2, 1), "lock chest with blue key", 11);
        reason(check, rooms, LOCK, with(2, 0), "lock chest with red key", 0);
        check.due("locked", rooms.thing(2, 7), 1);
        check.due("it", rooms.count(5), 2);
        // To lock one leaves another as it is, locked or not.
        Rooms three = Check.laid("r1;tb-r01;tg-r01cok00;ta-r01cok00;te-r01cok00;");
        check.done(three, "take key", "unlock chest with key", "unlock box with key", "lock chest with key");
        check.dueRow("locked", t -> three.thing(t, 7), NONE, 1, 0, 1);
        check.done(three, "unlock bag with key");
        check.dueRow("locked", t -> three.thing(t, 7), NONE, 1, 0, 0);
        // 9 is ahead of 11, with the wrong key in hand.
        Rooms wrong = Check.laid("r1;tbar01;tbbr01;tg-r01cok00;");
        check.done(wrong, "take blue key");
        reason(check, wrong, LOCK, with(2, 1), "lock chest with blue key", 9);
    }

    private static void unlock(Check check) {
        Rooms rooms = Check.laid("r1;tbar01;tbbr01;tg-r01cok00;ta-r01co;");
        reason(check, rooms, UNLOCK, with(3, 0), "unlock box with red key", 8);
        // 13 is ahead of 11.
        reason(check, rooms, UNLOCK, with(2, 1), "unlock chest with blue key", 13);
        reason(check, rooms, UNLOCK, with(2, 0), "unlock chest with red key", 13);
        check.done(rooms, "take blue key");
        reason(check, rooms, UNLOCK, with(2, 1), "unlock chest with blue key", 11);
        check.done(rooms, "take red key");
        reason(check, rooms, UNLOCK, with(2, 0), "unlock chest with red key", 0);
        check.due("locked", rooms.thing(2, 7), 0);
        check.due("it is closed still", rooms.thing(2, 6), 0);
        check.due("it", rooms.count(5), 2);
        // 9 is ahead of 11 and of 13.
        reason(check, rooms, UNLOCK, with(2, 1), "unlock chest with blue key", 9);
        check.done(rooms, "drop red key");
        reason(check, rooms, UNLOCK, with(2, 0), "unlock chest with red key", 9);
        // A key in a bag that is held is not with you; its place is not.
        Rooms bag = Check.laid("r1;te-r01c;tb-001;ta-r01cok01;");
        check.done(bag, "take bag");
        reason(check, bag, UNLOCK, with(2, 1), "unlock box with key", 13);
    }

    private static void lighting(Check check) {
        check.holds("8 light x: 8 it is no LAMP; 9 it is ON; 13 its PLACE is not with YOU; 15 it has no OIL.", ActSentencesTest::light);
        check.holds("9 douse x: 8 it is no LAMP; 9 it is not ON.", ActSentencesTest::douse);
    }

    private static void light(Check check) {
        Rooms rooms = Check.laid("r1;tc-r01l;tb-r01;");
        reason(check, rooms, LIGHT, with(1), "light key", 8);
        reason(check, rooms, LIGHT, with(0), "light lamp", 13);
        check.done(rooms, "take lamp", "light lamp");
        check.due("on", rooms.thing(0, 8), 1);
        check.due("it", rooms.count(5), 0);
        reason(check, rooms, LIGHT, with(0), "light lamp", 9);
        check.done(rooms, "drop lamp");
        // 9 is ahead of 13.
        reason(check, rooms, LIGHT, with(0), "light lamp", 9);
        Check.type(rooms, "wait");
        check.doneAgain(rooms, 18);
        check.due("oil", rooms.thing(0, 9), 0);
        // 13 is ahead of 15.
        reason(check, rooms, LIGHT, with(0), "light lamp", 13);
        check.done(rooms, "take lamp");
        reason(check, rooms, LIGHT, with(0), "light lamp", 15);
        // A lamp in a bag that is held.
        Rooms bag = Check.laid("r1;te-r01c;tc-001l;");
        check.done(bag, "take bag");
        reason(check, bag, LIGHT, with(1), "light lamp", 13);
    }

    private static void douse(Check check) {
        Rooms rooms = Check.laid("r1;tc-r01l;tb-r01;");
        reason(check, rooms, DOUSE, with(1), "douse key", 8);
        reason(check, rooms, DOUSE, with(0), "douse lamp", 9);
        check.done(rooms, "take lamp", "light lamp", "drop lamp");
        // It need not be held.
        reason(check, rooms, DOUSE, with(0), "douse lamp", 0);
        check.due("on", rooms.thing(0, 8), 0);
        check.due("oil", rooms.thing(0, 9), 18);
        reason(check, rooms, DOUSE, with(0), "douse lamp", 9);
    }

    private static void looking(Check check) {
        check.holds("10 look in x: 8 it is no BOX; 6 it is CLOSED.", ActSentencesTest::lookIn);
        check.holds("TOLD is how many THINGS have it for PLACE.", ActSentencesTest::lookedIn);
        check.holds("11 take x from y: 18 x's PLACE is not y; then as take x.", ActSentencesTest::takeFrom);
    }

    private static void lookIn(Check check) {
        Rooms rooms = Check.laid("r1;tb-r01;tf-r01s;tg-r01so;ta-r01co;te-r01c;");
        reason(check, rooms, LOOK_IN, with(0), "look in key", 8);
        reason(check, rooms, LOOK_IN, with(1), "look in table", 8);
        reason(check, rooms, LOOK_IN, with(2), "look in chest", 8);
        reason(check, rooms, LOOK_IN, with(3), "look in box", 6);
        reason(check, rooms, LOOK_IN, with(4), "look in bag", 0);
        check.due("it", rooms.count(5), 4);
        check.done(rooms, "open box", "look in box");
        check.due("it", rooms.count(5), 3);
    }

    private static void lookedIn(Check check) {
        Rooms rooms = Check.laid("r1;te-r01c;ta-r01c;ti-011c;tb-021;tb-021;tk-011;tb-011;");
        check.done(rooms, "look in box");
        check.due("told", rooms.count(4), 3);
        check.done(rooms, "look in cup");
        check.due("told", rooms.count(4), 2);
        check.done(rooms, "look in bag");
        check.due("told of none", rooms.count(4), 0);
    }

    private static void takeFrom(Check check) {
        // 0 box with 1 key and 2 bag with 3 cup; 4 table with 5 rope that is fixed, and 6 ball; 7 chest.
        Rooms rooms = Check.laid("r1;ta-r01c;tb-001;te-001c;ti-021;tf-r01sf;tj-041f;tk-049;tg-r03;");
        reason(check, rooms, TAKE_FROM, with(1, 4), "take key from table", 18);
        reason(check, rooms, TAKE_FROM, with(3, 0), "take cup from box", 18);
        reason(check, rooms, TAKE_FROM, with(7, 0), "take chest from box", 18);
        // 18 is ahead of 8 and of 9.
        reason(check, rooms, TAKE_FROM, with(5, 0), "take rope from box", 18);
        reason(check, rooms, TAKE_FROM, with(5, 4), "take rope from table", 8);
        reason(check, rooms, TAKE_FROM, with(0, 0), "take box from box", 18);
        check.done(rooms, "take chest");
        reason(check, rooms, TAKE_FROM, with(7, 4), "take chest from table", 18);
        check.done(rooms, "take key from box");
        check.due("how", rooms.thing(1, 2), 2);
        check.due("it", rooms.count(5), 1);
        reason(check, rooms, TAKE_FROM, with(6, 4), "take ball from table", 10);
        // 18 is ahead of 10.
        reason(check, rooms, TAKE_FROM, with(6, 0), "take ball from box", 18);
        // That y is closed, or what is in x, is asked no more than of take x.
        Rooms closed = Check.laid("r1;ta-r01co;tb-001;tg-r01c;te-022c;ti-036;tk-r05;");
        check.due("from a closed box", closed.would(TAKE_FROM, 1, 0), 0);
        check.done(closed, "take ball");
        reason(check, closed, TAKE_FROM, with(3, 2), "take bag from chest", 10);
        check.done(closed, "drop ball", "take chest");
        // What is carried weighs no more.
        reason(check, closed, TAKE_FROM, with(3, 2), "take bag from chest", 0);
        check.due("with you", closed.count(8), 9);
    }

    private static void wouldBe(Check check) {
        check.holds("REASON why an ACT (0 to 11) cannot be done with x (and y; 0 to 15", ActSentencesTest::numbersOfWould);
        check.holds("none is asked of ACTS of one THING), SEEN or not; 0: it CAN. BAD.", ActSentencesTest::noneIsAsked);
        check.holds("SEEN or not", ActSentencesTest::seenOrNot);
    }

    private static void numbersOfWould(Check check) {
        int[] wrong = {-1, 2, 15, 16, 17, 32, 33, 64, 256, 65536, 1 << 30, Integer.MAX_VALUE, Integer.MIN_VALUE};
        for (int act = 0; act <= 11; act++) {
            Rooms rooms = Check.laid("r1;ta-r01c;tb-001;");
            boolean two = act == PUT_IN || act == PUT_ON || act == LOCK || act == UNLOCK || act == TAKE_FROM;
            for (int number : wrong) {
                check.due("would(" + act + ", " + number + ", 0)", rooms.would(act, number, 0), BAD);
                if (two) {
                    check.due("would(" + act + ", 0, " + number + ")", rooms.would(act, 0, number), BAD);
                }
            }
        }
        Rooms rooms = Check.laid("r1;tb-r01;tb-r01;");
        for (int act : new int[] {-1, 12, 13, 32, 256, 65536, Integer.MAX_VALUE, Integer.MIN_VALUE}) {
            check.due("would(" + act + ", 0, 1)", rooms.would(act, 0, 1), BAD);
        }
        check.due("in a house without things", Check.laid("r1;").would(TAKE, 0, 0), BAD);
        Rooms most = Check.laid("r1;ta-r01c;" + "tb-r01;".repeat(15));
        check.due("would(0, 15, 0)", most.would(TAKE, 15, 0), 0);
        check.due("would(2, 0, 15)", most.would(PUT_IN, 0, 15), 13);
        check.due("would(0, 16, 0)", most.would(TAKE, 16, 0), BAD);
        check.due("would(2, 0, 16)", most.would(PUT_IN, 0, 16), BAD);
    }

    private static void noneIsAsked(Check check) {
        Rooms rooms = Check.laid("r1;ta-r01co;tcar01l;");
        check.done(rooms, "take lamp", "light lamp");
        int[] due = {0, 13, -1, -1, 0, 9, -1, -1, 8, 8, 6};
        int[] ofLamp = {9, 0, -1, -1, 8, 8, -1, -1, 9, 0, 8};
        for (int act = 0; act <= LOOK_IN; act++) {
            if (due[act] >= 0) {
                for (int y : new int[] {0, 1, 2, 15, 16, -1, -7, Integer.MAX_VALUE, Integer.MIN_VALUE}) {
                    check.due("would(" + act + ", 0, " + y + ")", rooms.would(act, 0, y), due[act]);
                    check.due("would(" + act + ", 1, " + y + ")", rooms.would(act, 1, y), ofLamp[act]);
                }
            }
        }
    }

    private static void seenOrNot(Check check) {
        // In another room, in a closed box, in the dark.
        Rooms rooms = Check.laid("r0;r1;tb-r11;ta-r11co;tc-011l;te-r01co;tg-r09f;");
        check.due("seen", rooms.count(9), 0);
        check.due("take", rooms.would(TAKE, 0, 0), 0);
        check.due("take from", rooms.would(TAKE_FROM, 2, 1), 0);
        check.due("drop", rooms.would(DROP, 0, 0), 13);
        check.due("put in", rooms.would(PUT_IN, 0, 1), 13);
        check.due("put on", rooms.would(PUT_ON, 0, 1), 13);
        check.due("open", rooms.would(OPEN, 1, 0), 0);
        check.due("close", rooms.would(CLOSE, 3, 0), 9);
        check.due("lock", rooms.would(LOCK, 1, 0), 8);
        check.due("unlock", rooms.would(UNLOCK, 1, 0), 8);
        check.due("light", rooms.would(LIGHT, 2, 0), 13);
        check.due("douse", rooms.would(DOUSE, 2, 0), 9);
        check.due("look in", rooms.would(LOOK_IN, 1, 0), 6);
        check.due("take what is fixed", rooms.would(TAKE, 4, 0), 8);
        // Nothing was done.
        check.dueRow("count", rooms::count, 2, 5, 0, 0, 0, NONE, 0);
    }
}
