/** Promises 10 to 15: thing, room, way, door, steps, count. */
public final class LookedAtTest {
    private static final int BAD = TypedRooms.BAD, NO = TypedRooms.NO, NONE = TypedRooms.NONE;
    private static final int[] ODD = {Integer.MIN_VALUE, -4, -1, 99, Integer.MAX_VALUE};

    public static void main(String[] args) {
        Check.all(check -> {
            wrongNumbers(check);
            most(check);
            thing(check);
            totals(check);
            seen(check);
            seenInTheDark(check);
            room(check);
            litByLamps(check);
            wayAndDoor(check);
            steps(check);
            count(check);
        });
    }

    private static void wrongNumbers(Check check) {
        Rooms rooms = new Rooms();
        for (int number : ODD) {
            check.due("thing(" + number + ", 0)", rooms.thing(number, 0), BAD);
            check.due("thing(0, " + number + ")", rooms.thing(0, number), BAD);
            check.due("room(" + number + ", 0)", rooms.room(number, 0), BAD);
            check.due("room(0, " + number + ")", rooms.room(0, number), BAD);
            check.due("way(" + number + ", 0)", rooms.way(number, 0), BAD);
            check.due("way(0, " + number + ")", rooms.way(0, number), BAD);
            check.due("door(" + number + ", 0)", rooms.door(number, 0), BAD);
            check.due("door(0, " + number + ")", rooms.door(0, number), BAD);
            check.due("steps(" + number + ", 0, 0)", rooms.steps(number, 0, 0), BAD);
            check.due("steps(0, " + number + ", 0)", rooms.steps(0, number, 0), BAD);
            check.due("steps(0, 0, " + number + ")", rooms.steps(0, 0, number), BAD);
            check.due("count(" + number + ")", rooms.count(number), BAD);
        }
        check.due("thing(10, 0)", rooms.thing(10, 0), BAD);
        check.due("thing(9, 14)", rooms.thing(9, 14), BAD);
        check.due("room(3, 0)", rooms.room(3, 0), BAD);
        check.due("room(2, 4)", rooms.room(2, 4), BAD);
        check.due("way(3, 0)", rooms.way(3, 0), BAD);
        check.due("way(2, 4)", rooms.way(2, 4), BAD);
        check.due("door(3, 0)", rooms.door(3, 0), BAD);
        check.due("door(2, 4)", rooms.door(2, 4), BAD);
        check.due("steps(3, 0, 0)", rooms.steps(3, 0, 0), BAD);
        check.due("steps(0, 3, 0)", rooms.steps(0, 3, 0), BAD);
        check.due("steps(0, 0, 2)", rooms.steps(0, 0, 2), BAD);
        check.due("count(12)", rooms.count(12), BAD);
    }

    private static void most(Check check) {
        StringBuilder house = new StringBuilder("r1;r1;r1;r1;r1;r1;");
        for (int t = 0; t < 16; t++) {
            house.append("tkhr59;");
        }
        house.append("d51n;");
        Rooms rooms = Check.laid(house.toString());
        check.due("rooms", rooms.count(0), 6);
        check.due("things", rooms.count(1), 16);
        check.due("noun of the last", rooms.thing(15, 0), 10);
        check.due("adjective of the last", rooms.thing(15, 1), 7);
        check.due("thing(16, 0)", rooms.thing(16, 0), BAD);
        check.due("out in the last room", rooms.room(5, 2), 16);
        check.due("room(6, 0)", rooms.room(6, 0), BAD);
        check.due("way of the last room", rooms.way(5, 0), 1);
        check.due("way(6, 0)", rooms.way(6, 0), BAD);
        check.due("would of the last", rooms.would(0, 15, 0), 0);
    }

    private static void thing(Check check) {
        Rooms rooms = Check.laid("r1;tb-r02;tgdr03cofk00;ta-r01;tcar01l;tl-r09of;tf-r07so;");
        check.dueRow("thing 0,", what -> rooms.thing(0, what), 1, NONE, 0, 0, 2, 2, NONE, NONE, NONE, NONE, 1, NONE, 0, 0, BAD);
        check.dueRow("thing 1,", what -> rooms.thing(1, what), 6, 3, 0, 0, 3, 3, 0, 1, NONE, NONE, 1, 0, 1, 1, BAD);
        check.dueRow("thing 3,", what -> rooms.thing(3, what), 2, 0, 0, 0, 1, 1, NONE, NONE, 0, 20, 1, NONE, 0, 0, BAD);
        check.dueRow("thing 4,", what -> rooms.thing(4, what), 11, NONE, 0, 0, 9, 9, 0, NONE, NONE, NONE, 1, NONE, 0, 1, BAD);
        check.dueRow("thing 5,", what -> rooms.thing(5, what), 5, NONE, 0, 0, 7, 7, 0, NONE, NONE, NONE, 1, NONE, 2, 0, BAD);
        check.done(rooms, "take key", "unlock chest with it", "open chest", "take lamp", "light it", "put key in chest");
        check.dueRow("thing 0,", what -> rooms.thing(0, what), 1, NONE, 1, 1, 2, 2, NONE, NONE, NONE, NONE, 1, NONE, 0, 0, BAD);
        check.dueRow("thing 1,", what -> rooms.thing(1, what), 6, 3, 0, 0, 3, 5, 1, 0, NONE, NONE, 1, 0, 1, 1, BAD);
        check.dueRow("thing 3,", what -> rooms.thing(3, what), 2, 0, 2, NONE, 1, 1, NONE, NONE, 1, 18, 1, NONE, 0, 0, BAD);
        check.done(rooms, "close chest");
        check.due("seen in the closed chest", rooms.thing(0, 10), 0);
    }

    private static void totals(Check check) {
        Rooms rooms = Check.laid("r1;ta-r01c;te-002s;tb-013;td-015;tf-r09sf;");
        check.dueRow("total", t -> rooms.thing(t, 5), 11, 10, 3, 5, 9, BAD);
        check.done(rooms, "take box", "take coin");
        check.dueRow("total", t -> rooms.thing(t, 5), 6, 5, 3, 5, 9, BAD);
        check.due("with you", rooms.count(8), 11);
        check.done(rooms, "put coin on table");
        check.due("total of the table", rooms.thing(4, 5), 14);
        check.due("with you", rooms.count(8), 6);
    }

    private static void seen(Check check) {
        Rooms rooms = new Rooms();
        check.dueRow("seen", t -> rooms.thing(t, 10), 1, 1, 1, 0, 0, 1, 0, 0, 0, 0, BAD);
        check.due("seen", rooms.count(9), 4);
        check.done(rooms, "open red box", "n");
        check.dueRow("seen", t -> rooms.thing(t, 10), 0, 0, 0, 0, 1, 0, 0, 0, 0, 1, BAD);
        check.done(rooms, "s");
        check.dueRow("seen", t -> rooms.thing(t, 10), 1, 1, 1, 1, 0, 1, 0, 0, 0, 0, BAD);
        // A door is seen from both sides, but only out where it is.
        Rooms doors = Check.laid("r1;r1;r1;tl-r09of;d01n00;d02e;");
        check.done(doors, "open door");
        check.dueRow("out in rooms", r -> doors.room(r, 2), 1, 0, 0, BAD);
        check.done(doors, "n");
        check.due("seen from behind", doors.thing(0, 10), 1);
        check.due("out there", doors.room(1, 2), 0);
        check.done(doors, "close door");
        check.dueSaid(doors, "s", 6);
        check.done(doors, "open door", "s", "e");
        check.due("seen from elsewhere", doors.thing(0, 10), 0);
        Rooms back = Check.laid("r1;r1;tl-r19of;d10s00;");
        check.due("seen from behind, where you begin", back.thing(0, 10), 1);
        check.done(back, "open door", "n");
        // A shelf that is closed hides nothing, a closed box does, a box without o does not.
        Rooms holders = Check.laid("r1;tf-r01so;tb-001;ta-r01co;td-021;te-r01c;ti-041;ta-041co;tj-061;");
        check.dueRow("seen", t -> holders.thing(t, 10), 1, 1, 1, 0, 1, 1, 1, 0, BAD);
        check.due("out", holders.room(0, 2), 6);
        check.due("in it", holders.room(0, 3), 8);
        check.done(holders, "take bag");
        check.dueRow("seen", t -> holders.thing(t, 10), 1, 1, 1, 0, 1, 1, 1, 0, BAD);
        check.due("out, held or not", holders.room(0, 2), 6);
        check.due("in it", holders.room(0, 3), 4);
    }

    private static void seenInTheDark(Check check) {
        Rooms rooms = Check.laid("r0;r1;tl-r09of;ta-r01c;tb-011;d01n00;d01e;tc-r13l;");
        check.due("seen", rooms.count(9), 0);
        check.due("a door in the dark", rooms.thing(0, 10), 0);
        check.due("out", rooms.room(0, 2), 3);
        check.done(rooms, "e", "take lamp", "light lamp", "w");
        check.due("seen by the lamp", rooms.count(9), 4);
        check.done(rooms, "take box");
        check.done(rooms, "douse lamp");
        check.dueRow("seen", t -> rooms.thing(t, 10), 0, 1, 0, 1, BAD);
        check.due("held in the dark", rooms.count(9), 2);
        check.dueSaid(rooms, "take key", 3);
        check.done(rooms, "light lamp", "take key");
    }

    private static void room(Check check) {
        Rooms rooms = new Rooms();
        check.dueRow("light", r -> rooms.room(r, 0), 1, 1, 0, BAD);
        check.dueRow("lit", r -> rooms.room(r, 1), 1, 1, 0, BAD);
        check.dueRow("out", r -> rooms.room(r, 2), 4, 2, 1, BAD);
        check.dueRow("in it", r -> rooms.room(r, 3), 6, 2, 2, BAD);
        check.done(rooms, "take red box", "n");
        check.dueRow("out", r -> rooms.room(r, 2), 3, 3, 1, BAD);
        check.dueRow("in it", r -> rooms.room(r, 3), 4, 2, 2, BAD);
        check.done(rooms, "open it");
        check.dueRow("out", r -> rooms.room(r, 2), 3, 4, 1, BAD);
        check.done(rooms, "drop it");
        check.dueRow("out", r -> rooms.room(r, 2), 3, 4, 1, BAD);
        check.dueRow("in it", r -> rooms.room(r, 3), 4, 4, 2, BAD);
    }

    private static void litByLamps(Check check) {
        Rooms rooms = Check.laid("r1;r0;r0;tc-r01l;ta-r01co;tf-r01s;d01n;d12n;");
        check.done(rooms, "take all", "open box", "light lamp");
        check.dueRow("light", r -> rooms.room(r, 0), 1, 0, 0);
        check.dueRow("lit", r -> rooms.room(r, 1), 1, 0, 0);
        check.done(rooms, "n");
        check.dueRow("lit", r -> rooms.room(r, 1), 1, 1, 0);
        check.done(rooms, "put lamp in box");
        check.dueRow("lit from the open box", r -> rooms.room(r, 1), 1, 1, 0);
        check.done(rooms, "close box");
        check.dueRow("not from the closed one", r -> rooms.room(r, 1), 1, 0, 0);
        check.due("seen", rooms.count(9), 2);
        check.done(rooms, "open box", "take lamp", "put lamp on table", "drop table", "n");
        check.dueRow("lit where the lamp is", r -> rooms.room(r, 1), 1, 1, 0);
        // A lamp that is a closed box itself gives light.
        Rooms lantern = Check.laid("r0;r1;tcar02col;tb-001;d01n;");
        check.done(lantern, "n");
        check.due("seen", lantern.count(9), 0);
        check.done(lantern, "s");
        check.dueSaid(lantern, "take lamp", 3);
        Rooms held = Check.laid("r1;r0;tcar02col;tb-001;d01n;");
        check.done(held, "take lamp", "light lamp", "n");
        check.due("lit", held.room(1, 1), 1);
        check.due("closed", held.thing(0, 6), 0);
        check.due("seen", held.count(9), 1);
    }

    private static void wayAndDoor(Check check) {
        Rooms rooms = new Rooms();
        check.dueRow("way from 0,", by -> rooms.way(0, by), 1, NONE, NONE, NONE, BAD);
        check.dueRow("way from 1,", by -> rooms.way(1, by), NONE, 0, 2, NONE, BAD);
        check.dueRow("way from 2,", by -> rooms.way(2, by), NONE, NONE, NONE, 1, BAD);
        check.dueRow("door from 0,", by -> rooms.door(0, by), NONE, NO, NO, NO, BAD);
        check.dueRow("door from 1,", by -> rooms.door(1, by), NO, NONE, 9, NO, BAD);
        check.dueRow("door from 2,", by -> rooms.door(2, by), NO, NO, NO, 9, BAD);
        Rooms all = Check.laid("r1;r1;r1;r1;r1;tl-r09of;d01n;d02s;d03e00;d04w;");
        check.dueRow("way from 0,", by -> all.way(0, by), 1, 2, 3, 4, BAD);
        check.dueRow("way from 1,", by -> all.way(1, by), NONE, 0, NONE, NONE, BAD);
        check.dueRow("way from 2,", by -> all.way(2, by), 0, NONE, NONE, NONE, BAD);
        check.dueRow("way from 3,", by -> all.way(3, by), NONE, NONE, NONE, 0, BAD);
        check.dueRow("way from 4,", by -> all.way(4, by), NONE, NONE, 0, NONE, BAD);
        check.dueRow("door from 0,", by -> all.door(0, by), NONE, NONE, 0, NONE, BAD);
        check.dueRow("door from 3,", by -> all.door(3, by), NO, NO, NO, 0, BAD);
        check.done(all, "n", "s", "s", "n", "w", "e");
        check.dueSaid(all, "e", 6);
    }

    private static void steps(Check check) {
        Rooms rooms = new Rooms();
        check.dueRow("steps from 0 to", b -> rooms.steps(0, b, 0), 0, 1, NONE, BAD);
        check.dueRow("steps by any from 0 to", b -> rooms.steps(0, b, 1), 0, 1, 2, BAD);
        check.dueRow("steps from 2 to", b -> rooms.steps(2, b, 0), NONE, NONE, 0, BAD);
        check.done(rooms, "n", "take key", "unlock door with key");
        check.dueRow("steps by a door that is not locked", b -> rooms.steps(0, b, 0), 0, 1, NONE, BAD);
        check.done(rooms, "open door");
        check.dueRow("steps by an open door", b -> rooms.steps(0, b, 0), 0, 1, 2, BAD);
        Rooms row = Check.laid("r1;r1;r1;r1;r1;r1;tl-r09of;d01n;d12n;d23n;d34n;d45n;d05e00;");
        check.dueRow("steps from 0 to", b -> row.steps(0, b, 0), 0, 1, 2, 3, 4, 5, BAD);
        check.dueRow("steps by any from 0 to", b -> row.steps(0, b, 1), 0, 1, 2, 3, 2, 1, BAD);
        check.dueRow("steps from 5 to", b -> row.steps(5, b, 0), 5, 4, 3, 2, 1, 0, BAD);
        check.done(row, "open door");
        check.dueRow("steps from 5 to", b -> row.steps(5, b, 0), 1, 2, 3, 2, 1, 0, BAD);
        Rooms apart = Check.laid("r1;r1;r1;r1;d01n;d23n;");
        check.dueRow("steps from 0 to", b -> apart.steps(0, b, 1), 0, 1, NONE, NONE, BAD);
        check.dueRow("steps from 3 to", b -> apart.steps(3, b, 0), NONE, NONE, 1, 0, BAD);
        // A second way past a closed door.
        Rooms two = Check.laid("r1;r1;tl-r09of;d01n00;d01e;");
        check.dueRow("steps from 1 to", b -> two.steps(1, b, 0), 1, 0, BAD);
    }

    private static void count(Check check) {
        Rooms rooms = new Rooms();
        check.done(rooms, "take lamp", "light it", "look", "n");
        check.dueSaid(rooms, "take key", 0);
        check.done(rooms, "s");
        check.dueSaid(rooms, "open box", 4);
        check.dueRow("count", rooms::count, 3, 10, 0, 6, 4, 4, 6, 8, 4, 5, 1, 1, BAD);
        check.dueSaid(rooms, "blue", 0);
        check.dueSaid(rooms, "open red box", 0);
        check.dueSaid(rooms, "put lamp in box", 4);
        check.dueRow("count", rooms::count, 3, 10, 0, 8, 4, 1, 8, 15, 4, 7, 2, 2, BAD);
    }
}
