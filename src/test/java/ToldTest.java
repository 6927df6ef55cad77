/** Promises 1 to 5: a new object, write, wipe, fault, lay. */
public final class ToldTest {
    private static final int BAD = TypedRooms.BAD, NO = TypedRooms.NO, FULL = TypedRooms.FULL, NONE = TypedRooms.NONE;
    private static final String SIX_ROOMS = "r1;r0;r1;r0;r1;r0;";

    public static void main(String[] args) {
        Check.all(check -> {
            constants(check);
            newObject(check);
            write(check);
            wipe(check);
            faultOfRooms(check);
            faultOfThings(check);
            faultOfTraits(check);
            faultOfWays(check);
            faultOfDoors(check);
            lay(check);
            layBeginsAnew(check);
            nothingIsLeftOfOtherHouses(check);
        });
    }

    private static void constants(Check check) {
        check.due("BAD", BAD, -1);
        check.due("NO", NO, -2);
        check.due("FULL", FULL, -3);
        check.due("NONE", NONE, -4);
    }

    private static void newObject(Check check) {
        Rooms rooms = new Rooms();
        check.dueRow("count", rooms::count, 3, 10, 0, 0, 0, NONE, 0, 0, 0, 4, 0, NONE, BAD);
        check.dueRow("noun of thing", t -> rooms.thing(t, 0), 5, 0, 0, 1, 1, 2, 3, 6, 3, 11, BAD);
        check.dueRow("adjective of thing", t -> rooms.thing(t, 1), NONE, 0, 1, 6, 7, 2, 6, 4, 2, 7, BAD);
        check.dueRow("kind of place of thing", t -> rooms.thing(t, 2), 0, 1, 0, 1, 0, 1, 1, 0, 1, 0, BAD);
        check.dueRow("place of thing", t -> rooms.thing(t, 3), 0, 0, 0, 1, 1, 0, 2, 2, 7, 1, BAD);
        check.due("doubt()", rooms.doubt(), NONE);
        check.due("undo()", rooms.undo(), NO);
        check.due("say()", rooms.say(), 1);
        check.due("fault()", rooms.fault(), NONE);
        check.due("wipe()", rooms.wipe(), 0);
    }

    private static void write(Check check) {
        Rooms rooms = new Rooms();
        check.due("write the letter ahead of the first", rooms.write(31), BAD);
        check.due("write the letter behind the last", rooms.write(127), BAD);
        check.due("write(0)", rooms.write(0), BAD);
        check.due("write(-1)", rooms.write(-1), BAD);
        check.due("write the lowest int", rooms.write(Integer.MIN_VALUE), BAD);
        check.due("write what is a letter but for its high bits", rooms.write(65536 + 97), BAD);
        check.due("letters after BAD", rooms.count(7), 0);
        check.due("write the first letter", rooms.write(32), 1);
        check.due("write the last letter", rooms.write(126), 2);
        for (int length = 3; length <= 240; length++) {
            check.due("write", rooms.write('a'), length);
        }
        check.due("write the 241st", rooms.write('a'), FULL);
        check.due("BAD comes before FULL", rooms.write(31), BAD);
        check.due("letters after FULL", rooms.count(7), 240);
        check.due("say() of a full text", rooms.say(), 1);
        check.due("fault() of a full text", rooms.fault(), 0);
    }

    private static void wipe(Check check) {
        Rooms rooms = new Rooms();
        check.due("wipe() of an empty text", rooms.wipe(), 0);
        Check.type(rooms, "look");
        check.due("wipe()", rooms.wipe(), 4);
        check.due("wipe() again", rooms.wipe(), 0);
        check.due("letters", rooms.count(7), 0);
        check.due("write after wipe()", rooms.write('n'), 1);
        check.due("say() is of the new text", rooms.say(), 0);
        check.due("your room", rooms.count(2), 1);
    }

    private static void fault(Check check, String house, int want) {
        Rooms rooms = new Rooms();
        Check.type(rooms, house);
        check.due("fault of \"" + house + "\"", rooms.fault(), want);
        check.due("letters after fault()", rooms.count(7), Math.min(house.length(), 240));
        check.due("rooms after fault()", rooms.count(0), 3);
        check.due("things after fault()", rooms.count(1), 10);
    }

    private static void faultOfRooms(Check check) {
        fault(check, "", NONE);
        fault(check, "r1;", NONE);
        fault(check, "r0;", NONE);
        fault(check, "r2;", 0);
        fault(check, "r-;", 0);
        fault(check, "r;", 0);
        fault(check, "r", 0);
        fault(check, "r1", 0);
        fault(check, "r1;r1", 3);
        fault(check, "r11;", 0);
        fault(check, "r1 ;", 0);
        fault(check, ";", 0);
        fault(check, "r1;;", 3);
        fault(check, "x1;r1;", 0);
        fault(check, "x;r1;", 0);
        fault(check, "r1;x;", 3);
        fault(check, "R1;", 0);
        fault(check, " r1;", 0);
        fault(check, "r1; r1;", 3);
        fault(check, SIX_ROOMS, NONE);
        fault(check, SIX_ROOMS + "r1;", 18);
        fault(check, SIX_ROOMS + "r1;x", 18);
    }

    private static void faultOfThings(Check check) {
        fault(check, "r1;ta-r01;", NONE);
        fault(check, "r1;tlhr09;", NONE);
        fault(check, "r1;tm-r01;", 3);
        fault(check, "r1;t`-r01;", 3);
        fault(check, "r1;taar01;", NONE);
        fault(check, "r1;tair01;", 3);
        fault(check, "r1;ta r01;", 3);
        fault(check, "r1;ta-r11;", 3);
        fault(check, "r1;ta-r11;r1;", 3);
        fault(check, "r1;r1;ta-r11;", NONE);
        fault(check, "ta-r01;", 0);
        fault(check, "r1;ta-r00;", 3);
        fault(check, "r1;ta-r0;", 3);
        fault(check, "r1;ta-r0", 3);
        fault(check, "r1;ta-r01", 3);
        fault(check, "r1;ta-r012;", 3);
        fault(check, "r1;ta-r01c;tb-001;", NONE);
        fault(check, "r1;ta-r01s;tb-001;", NONE);
        fault(check, "r1;ta-r01;tb-001;", 10);
        fault(check, "r1;ta-r01c;tb-011;", 11);
        fault(check, "r1;ta-r01c;tb-011c;", 11);
        fault(check, "r1;ta-r01c;tb-0a1;", 11);
        fault(check, "r1;ta-r01c;tb-r/1;", 11);
        // Letters next to the figures, such as would make a number that there is.
        fault(check, "r1;ta-r01c;tb-/:1;", 11);
        fault(check, "r1;ta-r01c;tb-0/1;", 11);
        fault(check, sixteenBoxes().substring(0, 91) + "tb-0:1;", 91);
        String sixteen = sixteenBoxes();
        fault(check, sixteen, NONE);
        fault(check, sixteen + "tb-001;", sixteen.length());
        fault(check, sixteen.substring(0, sixteen.length() - 8) + "tb-141;", NONE);
        fault(check, sixteen.substring(0, sixteen.length() - 8) + "tb-151;", sixteen.length() - 8);
    }

    /** A ROOM (3 letters) and 16 boxes (8 letters each). */
    private static String sixteenBoxes() {
        return "r1;ta-r01c;" + "tb-001c;".repeat(15);
    }

    private static void faultOfTraits(Check check) {
        for (String traits : new String[] {"", "c", "s", "o", "f", "l", "co", "so", "cofl", "sofl", "ofl", "cf", "sl", "fl"}) {
            fault(check, "r1;ta-r01" + traits + ";", NONE);
        }
        for (String traits : new String[] {"cs", "sc", "oc", "fo", "lf", "lo", "cc", "oo", "x", "C", " ", "lc"}) {
            fault(check, "r1;ta-r01" + traits + ";", 3);
        }
        fault(check, "r1;tb-r01;ta-r01ok00;", NONE);
        fault(check, "r1;tb-r01;ta-r01coflk00;", NONE);
        fault(check, "r1;tb-r01;ta-r01k00;", 10);
        fault(check, "r1;tb-r01;ta-r01flk00;", 10);
        fault(check, "r1;tb-r01;ta-r01ok01;", 10);
        fault(check, "r1;tb-r01;ta-r01ok0;", 10);
        fault(check, "r1;tb-r01;ta-r01ok000;", 10);
        fault(check, "r1;tb-r01;ta-r01ok00l;", 10);
        fault(check, "r1;tb-r01;ta-r01ok;", 10);
        fault(check, "r1;tb-r01;ta-r01ok-1;", 10);
        fault(check, "r1;ta-r01ok00;", 3);
    }

    private static void faultOfWays(Check check) {
        for (char by : "nsew".toCharArray()) {
            fault(check, "r1;r1;d01" + by + ";", NONE);
        }
        fault(check, "r1;r1;d01u;", 6);
        fault(check, "r1;r1;d01;", 6);
        fault(check, "r1;r1;d01n", 6);
        fault(check, "r1;r1;d00n;", 6);
        fault(check, "r1;r1;d02n;", 6);
        fault(check, "r1;r1;d20n;", 6);
        fault(check, "r1;d01n;r1;", 3);
        fault(check, "r1;r1;d01n;d01n;", 11);
        fault(check, "r1;r1;d01n;d10s;", 11);
        fault(check, "r1;r1;d01n;d10n;", NONE);
        fault(check, "r1;r1;d01e;d10w;", 11);
        fault(check, "r1;r1;d01n;d01s;d01e;d01w;", NONE);
        fault(check, "r1;r1;r1;d01n;d02n;", 14);
        fault(check, "r1;r1;r1;d01n;d21n;", 14);
        fault(check, "r1;r1;r1;d01n;d12n;", NONE);
    }

    private static void faultOfDoors(Check check) {
        String two = "r1;r1;";
        fault(check, two + "tl-r09of;d01n00;", NONE);
        fault(check, two + "tl-r09ofl;d01n00;", NONE);
        fault(check, two + "tl-r09of;d10n00;", 15);
        fault(check, two + "tl-r19of;d10n00;", NONE);
        fault(check, two + "tl-r09of;d01n01;", 15);
        fault(check, two + "tl-r09of;d01n0;", 15);
        fault(check, two + "tl-r09of;d01n000;", 15);
        fault(check, two + "tl-r09of;d01n0x;", 15);
        fault(check, two + "tl-r09of;d01n00", 15);
        fault(check, two + "tl-r09of;d01n00;d01s00;", 22);
        fault(check, two + "d01n00;tl-r09of;", 6);
        fault(check, two + "tl-r09o;d01n00;", 14);
        fault(check, two + "tl-r09f;d01n00;", 14);
        fault(check, two + "tl-r09cof;d01n00;", 16);
        fault(check, two + "tl-r09sof;d01n00;", 16);
        fault(check, two + "ta-r01c;tl-009of;d01n01;", 23);
        fault(check, two + "tb-r01;tl-r09ofk00;d01n01;", NONE);
    }

    private static void lay(Check check) {
        Rooms rooms = new Rooms();
        check.due("lay() of an empty text", rooms.lay(), NO);
        Check.type(rooms, "r1;x");
        check.due("lay() of a text with a fault", rooms.lay(), NO);
        check.due("rooms after NO", rooms.count(0), 3);
        check.due("letters after NO", rooms.count(7), 4);
        Check.type(rooms, "r0;r1;tccr13l;d01n;");
        check.due("lay()", rooms.lay(), 2);
        check.dueRow("count", rooms::count, 2, 1, 0, 0, 0, NONE, 0, 19, 0, 0, 0, NONE);
        check.dueRow("thing 0,", what -> rooms.thing(0, what), 2, 2, 0, 1, 3, 3, NONE, NONE, 0, 20, 0, NONE, 0, 0, BAD);
        check.due("lay() again", rooms.lay(), 2);
        Check.type(rooms, SIX_ROOMS);
        check.due("lay() of six rooms", rooms.lay(), 6);
        check.due("things", rooms.count(1), 0);
        check.due("thing(0, 0)", rooms.thing(0, 0), BAD);
        check.due("way of the house before", rooms.way(0, 0), NONE);
    }

    private static void layBeginsAnew(Check check) {
        Rooms rooms = new Rooms();
        check.done(rooms, "take lamp", "light lamp", "look", "n");
        Check.type(rooms, "r1;r2;");
        check.due("lay() with a fault", rooms.lay(), NO);
        check.dueRow("count after NO", rooms::count, 3, 10, 1, 4, 4, 5, 4, 6, 3, 3);
        check.done(rooms, "s");
        check.dueSaid(rooms, "open box", 4);
        Check.type(rooms, "r1;ta-r01co;");
        check.due("fault() leaves the doubt", rooms.fault(), NONE);
        check.due("doubt()", rooms.doubt(), 6);
        check.due("lay()", rooms.lay(), 1);
        check.dueRow("count", rooms::count, 1, 1, 0, 0, 0, NONE, 0, 12, 0, 1, 0, NONE);
        check.due("doubt()", rooms.doubt(), NONE);
        check.due("undo()", rooms.undo(), NO);
        check.dueSaid(rooms, "open it", 3);
        check.done(rooms, "take box", "open box");
        Check.type(rooms, "r1;ta-r01co;");
        check.due("lay()", rooms.lay(), 1);
        check.due("the box is in the room again", rooms.thing(0, 2), 0);
        check.due("the box is closed again", rooms.thing(0, 6), 0);
    }

    private static void nothingIsLeftOfOtherHouses(Check check) {
        Rooms rooms = new Rooms();
        String full = "r1;r1;tb-r01;ta-r09cofk00;ta-r09sof;tc-r09l;tl-r09of;d01n04;";
        for (int times = 0; times < 2; times++) {
            Check.type(rooms, full);
            check.due("lay()", rooms.lay(), 2);
        }
        Check.type(rooms, "r0;r0;tb-r01;tb-r01;tb-r01;tb-r01;tb-r01;d01s;");
        for (int times = 0; times < 2; times++) {
            check.due("lay()", rooms.lay(), 2);
            for (int t = 0; t < 5; t++) {
                int thing = t;
                check.dueRow("thing " + t + ",", what -> rooms.thing(thing, what),
                    1, NONE, 0, 0, 1, 1, NONE, NONE, NONE, NONE, 0, NONE, 0, 0, BAD);
            }
            check.due("thing(5, 0)", rooms.thing(5, 0), BAD);
            check.dueRow("way from 0,", by -> rooms.way(0, by), NONE, 1, NONE, NONE, BAD);
            check.dueRow("door from 0,", by -> rooms.door(0, by), NO, NONE, NO, NO, BAD);
            check.dueRow("light", r -> rooms.room(r, 0), 0, 0, BAD);
        }
        // The door of the house before is none yet in the next.
        Check.type(rooms, full);
        check.due("fault()", rooms.fault(), NONE);
        check.due("fault() again", rooms.fault(), NONE);
        Check.type(rooms, "r1;tb-r01;ta-001;");
        check.due("the box of the house before is none now", rooms.fault(), 10);
    }
}
