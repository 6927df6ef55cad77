/** Promise 9: would, each REASON that the document tells, and their order. */
public final class WouldTest {
    private static final int BAD = TypedRooms.BAD;

    public static void main(String[] args) {
        Check.all(check -> {
            wrongNumbers(check);
            taking(check);
            weights(check);
            dropping(check);
            putting(check);
            puttingWeights(check);
            opening(check);
            locking(check);
            lighting(check);
            lookingIn(check);
            takingFrom(check);
            changesNothing(check);
        });
    }

    private static void wrongNumbers(Check check) {
        Rooms rooms = new Rooms();
        int[] odd = {Integer.MIN_VALUE, -1, 10, 15, 16, 32, Integer.MAX_VALUE};
        for (int act = 0; act <= 11; act++) {
            boolean two = act == 2 || act == 3 || act == 6 || act == 7 || act == 11;
            for (int number : odd) {
                check.due("would(" + act + ", " + number + ", 0)", rooms.would(act, number, 0), BAD);
                check.due("would(" + act + ", 0, " + number + ") is BAD", rooms.would(act, 0, number) == BAD ? 1 : 0, two ? 1 : 0);
            }
        }
        for (int act : new int[] {Integer.MIN_VALUE, -1, 12, Integer.MAX_VALUE}) {
            check.due("would(" + act + ", 5, 0)", rooms.would(act, 5, 0), BAD);
        }
        check.due("of an act of one thing no second is asked", rooms.would(0, 5, -7), 0);
        check.due("the last thing", rooms.would(4, 9, 0), 7);
    }

    private static void taking(Check check) {
        Rooms rooms = new Rooms();
        check.dueRow("take", x -> rooms.would(0, x, 0), 8, 0, 0, 0, 0, 0, 0, 8, 0, 8, BAD);
        check.done(rooms, "take lamp");
        check.due("take what is held", rooms.would(0, 5, 0), 9);
    }

    private static void weights(Check check) {
        Rooms rooms = Check.laid("r1;tg-r09;th-r03;ti-r01;ta-r02c;tj-034;tk-037f;");
        check.done(rooms, "take chest");
        check.due("take up to 12", rooms.would(0, 1, 0), 0);
        check.due("take with what is in it", rooms.would(0, 3, 0), 10);
        check.done(rooms, "take book");
        check.due("take to 13", rooms.would(0, 2, 0), 10);
        check.due("take what is held", rooms.would(0, 1, 0), 9);
        Rooms box = Check.laid("r1;ta-r05c;tb-007;tj-r01;");
        check.done(box, "take box");
        check.due("what you carry already weighs no more", box.would(0, 1, 0), 0);
        check.due("take to 13", box.would(0, 2, 0), 10);
        Rooms nested = Check.laid("r1;ta-r01c;te-005c;td-016;ti-r01;");
        check.due("take to 12, of three", nested.would(0, 0, 0), 0);
        check.done(nested, "take box");
        check.due("take to 13", nested.would(0, 3, 0), 10);
        check.due("what is in it, in it", nested.would(0, 2, 0), 0);
    }

    private static void dropping(Check check) {
        Rooms rooms = new Rooms();
        check.dueRow("drop", x -> rooms.would(1, x, 0), 13, 13, 13, 13, 13, 13, 13, 13, 13, 13, BAD);
        check.done(rooms, "take red box");
        check.due("drop what is held", rooms.would(1, 1, 0), 0);
        check.due("drop what is in it", rooms.would(1, 3, 0), 13);
    }

    private static void putting(Check check) {
        // 0 key, 1 box that is closed, 2 bag (a box without o), 3 table, 4 cup in the bag, 5 closed shelf.
        Rooms rooms = Check.laid("r1;tb-r01;ta-r01co;te-r01c;tf-r01s;ti-021;tg-r01so;");
        for (int act = 2; act <= 3; act++) {
            check.due("put a thing in itself", rooms.would(act, 2, 2), 14);
            check.due("put a thing in what is in it", rooms.would(act, 2, 4), 14);
            check.due("put what is not held", rooms.would(act, 0, 2), 13);
        }
        check.done(rooms, "take key", "take bag");
        check.due("in a closed box", rooms.would(2, 0, 1), 6);
        check.due("on a box", rooms.would(3, 0, 1), 8);
        check.due("in a table", rooms.would(2, 0, 3), 8);
        check.due("on a table", rooms.would(3, 0, 3), 0);
        check.due("on a closed shelf", rooms.would(3, 0, 5), 0);
        check.due("in a closed shelf", rooms.would(2, 0, 5), 8);
        check.due("in a cup", rooms.would(2, 0, 4), 8);
        check.due("in a bag", rooms.would(2, 0, 2), 0);
        check.due("what is in the bag on the table", rooms.would(3, 4, 3), 13);
        check.due("the bag in the cup", rooms.would(2, 2, 4), 14);
        check.done(rooms, "open box", "put bag in box");
        check.due("the box in the bag in it", rooms.would(2, 1, 2), 14);
        check.due("the box in the cup in the bag in it", rooms.would(2, 1, 4), 14);
        check.due("in the open box", rooms.would(2, 0, 1), 0);
    }

    private static void puttingWeights(Check check) {
        Rooms rooms = Check.laid("r1;ta-r09c;te-003c;tb-013;ti-r06;tj-r01;tf-r09s;tk-056;");
        check.done(rooms, "take cup", "take rope");
        check.due("6 and 6 in it", rooms.would(2, 3, 0), 0);
        check.due("6 and 6 on it", rooms.would(3, 3, 5), 0);
        check.done(rooms, "put cup in box");
        check.due("1 and 12 in it", rooms.would(2, 4, 0), 10);
        check.due("1 and 6 on it", rooms.would(3, 4, 5), 0);
        check.done(rooms, "take cup from box", "put cup on table");
        check.due("1 and 12 on it", rooms.would(3, 4, 5), 10);
        check.due("the box itself does not count", rooms.would(2, 4, 0), 0);
    }

    private static void opening(Check check) {
        Rooms rooms = Check.laid("r1;tb-r01;ta-r01co;tg-r01cok00;tf-r01s;");
        check.dueRow("open", x -> rooms.would(4, x, 0), 8, 0, 7, 8, BAD);
        check.dueRow("close", x -> rooms.would(5, x, 0), 8, 9, 9, 8, BAD);
        check.done(rooms, "open box");
        check.dueRow("open", x -> rooms.would(4, x, 0), 8, 9, 7, 8, BAD);
        check.dueRow("close", x -> rooms.would(5, x, 0), 8, 0, 9, 8, BAD);
    }

    private static void locking(Check check) {
        // 0 and 1 keys, 2 chest that key 0 fits, 3 box that can be open.
        Rooms rooms = Check.laid("r1;tbar01;tbbr01;tg-r01cok00;ta-r01co;");
        check.due("lock what has no lock", rooms.would(6, 3, 0), 8);
        check.due("unlock what has no lock", rooms.would(7, 3, 0), 8);
        check.due("lock what is locked", rooms.would(6, 2, 0), 9);
        check.due("unlock with what is not held", rooms.would(7, 2, 0), 13);
        check.due("unlock with the wrong key, not held", rooms.would(7, 2, 1), 13);
        check.done(rooms, "take red key", "take blue key");
        check.due("unlock with the wrong key", rooms.would(7, 2, 1), 11);
        check.due("unlock with itself", rooms.would(7, 2, 2), 13);
        check.due("unlock", rooms.would(7, 2, 0), 0);
        check.done(rooms, "unlock chest with key");
        check.due("locked", rooms.thing(2, 7), 0);
        check.due("unlock again", rooms.would(7, 2, 0), 9);
        check.due("lock", rooms.would(6, 2, 0), 0);
        check.due("lock with the wrong key", rooms.would(6, 2, 1), 11);
        check.done(rooms, "open chest");
        check.due("lock what is open", rooms.would(6, 2, 0), 16);
        check.due("unlock what is open", rooms.would(7, 2, 0), 9);
        check.done(rooms, "drop red key", "close chest");
        check.due("lock with what is not held", rooms.would(6, 2, 0), 13);
        check.done(rooms, "take red key", "lock chest with key");
        check.due("locked", rooms.thing(2, 7), 1);
        check.due("open", rooms.would(4, 2, 0), 7);
    }

    private static void lighting(Check check) {
        Rooms rooms = Check.laid("r1;tc-r01l;tb-r01;");
        check.dueRow("light", x -> rooms.would(8, x, 0), 13, 8, BAD);
        check.dueRow("douse", x -> rooms.would(9, x, 0), 9, 8, BAD);
        check.done(rooms, "take lamp");
        check.dueRow("light", x -> rooms.would(8, x, 0), 0, 8, BAD);
        check.done(rooms, "light lamp", "drop lamp");
        check.dueRow("light", x -> rooms.would(8, x, 0), 9, 8, BAD);
        check.dueRow("douse what is not held", x -> rooms.would(9, x, 0), 0, 8, BAD);
        for (int turn = 0; turn < 18; turn++) {
            check.due("oil", rooms.thing(0, 9), 18 - turn);
            check.done(rooms, "wait");
        }
        check.dueRow("light without oil, not held", x -> rooms.would(8, x, 0), 13, 8, BAD);
        check.done(rooms, "take lamp");
        check.dueRow("light without oil", x -> rooms.would(8, x, 0), 15, 8, BAD);
        check.dueRow("douse without oil", x -> rooms.would(9, x, 0), 9, 8, BAD);
    }

    private static void lookingIn(Check check) {
        Rooms rooms = new Rooms();
        check.dueRow("look in", x -> rooms.would(10, x, 0), 8, 6, 6, 8, 8, 8, 8, 6, 8, 8, BAD);
        check.done(rooms, "open red box");
        check.dueRow("look in", x -> rooms.would(10, x, 0), 8, 0, 6, 8, 8, 8, 8, 6, 8, 8, BAD);
    }

    private static void takingFrom(Check check) {
        Rooms rooms = new Rooms();
        check.due("take from where it is not", rooms.would(11, 5, 1), 18);
        check.due("take from where it is", rooms.would(11, 5, 0), 0);
        check.due("take from what holds what holds it", rooms.would(11, 3, 0), 18);
        check.due("take from a closed box", rooms.would(11, 3, 1), 0);
        check.due("take what is fixed from elsewhere", rooms.would(11, 0, 1), 18);
        check.done(rooms, "take lamp");
        check.due("take what is held from elsewhere", rooms.would(11, 5, 0), 18);
        Rooms heavy = Check.laid("r1;tf-r01s;tb-009f;tg-009;th-004;");
        check.due("take what is fixed", heavy.would(11, 1, 0), 8);
        check.done(heavy, "take chest from table");
        check.due("take too much", heavy.would(11, 3, 0), 10);
        check.dueSaid(heavy, "take book from table", 10);
        check.dueSaid(heavy, "take key from table", 8);
    }

    private static void changesNothing(Check check) {
        Rooms rooms = new Rooms();
        check.done(rooms, "n");
        check.due("of what is not seen", rooms.would(4, 1, 0), 0);
        for (int act = 0; act <= 11; act++) {
            for (int x = 0; x < 10; x++) {
                rooms.would(act, x, 3);
            }
        }
        check.dueRow("count", rooms::count, 3, 10, 1, 1, 0, TypedRooms.NONE, 1, 1, 0, 2, 0, TypedRooms.NONE);
    }
}
