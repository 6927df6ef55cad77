/** Each sentence on THE TEXT, on how a HOUSE is told, and of promises 1 to 5, by itself. */
public final class HouseSentencesTest {
    private static final int BAD = TypedRooms.BAD, NO = TypedRooms.NO, FULL = TypedRooms.FULL, NONE = TypedRooms.NONE;
    private static final String FIRST_HOUSE =
        "r1;r1;r0;tf-r09sf;taa002co;tabr02co;tbg011;tbhr11;tcc003l;tdg021;tger29cofk03;tdc071;tlhr19ofk04;d01n;d12e09;";
    /** Two ROOMS (6 letters) and a THING that can be a DOOR of the first (9 letters). */
    private static final String DOOR = "r1;r1;tl-r09of;";

    public static void main(String[] args) {
        Check.all(check -> {
            items(check);
            things(check);
            traits(check);
            ways(check);
            doors(check);
            faults(check);
            newObject(check);
            writing(check);
            laying(check);
            refusals(check);
        });
    }

    private static void items(Check check) {
        check.holds("each a letter, then as told, a ; behind it", HouseSentencesTest::itemsEnd);
        check.holds("a ROOM more (0, 1, ..; 6 at most)", HouseSentencesTest::mostRooms);
        check.holds("with LIGHT (L is 1) or without (0)", HouseSentencesTest::light);
    }

    private static void itemsEnd(Check check) {
        check.dueFault("r1;tb-r01;", NONE);
        check.dueFault("r1", 0);
        check.dueFault("r1:", 0);
        check.dueFault("r1;r1", 3);
        check.dueFault("r1r1;", 0);
        check.dueFault("r1,r1;", 0);
        check.dueFault("r1;tb-r01", 3);
        check.dueFault("r1;tb-r01tb-r01;", 3);
        check.dueFault("r1;r1;d01n", 6);
        check.dueFault("r1;r1;d01nd01s;", 6);
        check.dueFault(DOOR + "d01n00", 15);
        check.dueFault(";", 0);
        check.dueFault("r1;;", 3);
        check.dueFault("r1; ", 3);
        check.dueFault("r1; r1;", 3);
        check.dueFault(" r1;", 0);
        check.dueFault("r 1;", 0);
        for (char letter = ' '; letter <= '~'; letter++) {
            // All is as in a ROOM but the letter.
            check.dueFault(letter + "1;", letter == 'r' ? NONE : 0);
        }
    }

    private static void mostRooms(Check check) {
        for (int rooms = 1; rooms <= 6; rooms++) {
            Rooms house = Check.typed("r1;".repeat(rooms));
            check.due("fault of " + rooms + " rooms", house.fault(), NONE);
            check.due("lay() of " + rooms + " rooms", house.lay(), rooms);
            check.due("rooms", house.count(0), rooms);
            check.due("light of the last", house.room(rooms - 1, 0), 1);
            check.due("a room more", house.room(rooms, 0), BAD);
        }
        check.dueFault("r1;".repeat(7), 18);
        check.dueFault("r1;".repeat(8), 18);
        check.due("lay() of 7 rooms", Check.typed("r1;".repeat(7)).lay(), NO);
    }

    private static void light(Check check) {
        Rooms rooms = Check.laid("r0;r1;r0;r0;r1;r1;");
        check.dueRow("light", r -> rooms.room(r, 0), 0, 1, 0, 0, 1, 1);
        for (char figure : "/2:9a- ;".toCharArray()) {
            check.dueFault("r" + figure + ";", 0);
        }
        check.dueFault("r;", 0);
        check.dueFault("r01;", 0);
    }

    private static void things(Check check) {
        check.holds("a THING more (0, 1, ..; 16 at most)", HouseSentencesTest::mostThings);
        check.holds("N its NOUN (a to l)", HouseSentencesTest::nouns);
        check.holds("A its ADJECTIVE (a to h, or - for none)", HouseSentencesTest::adjectives);
        check.holds("r and the figure of a ROOM that there is", HouseSentencesTest::placesInRooms);
        check.holds("two figures, a THING that there is and is a BOX or a SHELF", HouseSentencesTest::placesInThings);
        check.holds("W its WEIGHT (1 to 9)", HouseSentencesTest::weights);
        check.holds("NOUNS a to l: box key lamp coin bag table chest book cup rope ball door.", HouseSentencesTest::nounWords);
        check.holds("ADJECTIVES a to h: red blue old new big small gold iron.", HouseSentencesTest::adjectiveWords);
    }

    private static void mostThings(Check check) {
        Rooms rooms = Check.typed("r1;" + "tb-r01;".repeat(16));
        check.due("fault of 16 things", rooms.fault(), NONE);
        check.due("lay() of 16 things", rooms.lay(), 1);
        check.due("things", rooms.count(1), 16);
        check.due("the last", rooms.thing(15, 0), 1);
        check.due("one more", rooms.thing(16, 0), BAD);
        check.dueFault("r1;" + "tb-r01;".repeat(17), 3 + 16 * 7);
        check.dueFault("r1;" + "tb-r01;".repeat(18), 3 + 16 * 7);
        // What comes behind the last THING may be as told.
        check.dueFault("r1;" + "tb-r01;".repeat(16) + "r1;", NONE);
        Rooms none = Check.laid("r1;");
        check.due("things of a house without", none.count(1), 0);
        check.due("thing(0, 0) of a house without", none.thing(0, 0), BAD);
    }

    private static void nouns(Check check) {
        for (char noun = ' '; noun <= '~'; noun++) {
            check.dueFault("r1;t" + noun + "-r01;", noun >= 'a' && noun <= 'l' ? NONE : 3);
        }
        Rooms rooms = Check.laid("r1;ta-r01;tl-r01;");
        check.dueRow("noun", t -> rooms.thing(t, 0), 0, 11);
    }

    private static void adjectives(Check check) {
        for (char adjective = ' '; adjective <= '~'; adjective++) {
            boolean asTold = adjective >= 'a' && adjective <= 'h' || adjective == '-';
            check.dueFault("r1;ta" + adjective + "r01;", asTold ? NONE : 3);
        }
        check.dueFault("r1;tar01;", 3);
        Rooms rooms = Check.laid("r1;taar01;tahr01;ta-r01;");
        check.dueRow("adjective", t -> rooms.thing(t, 1), 0, 7, NONE);
    }

    private static void placesInRooms(Check check) {
        check.dueFault("r1;tb-r01;", NONE);
        check.dueFault("r1;tb-r11;", 3);
        check.dueFault("r1;r1;tb-r11;", NONE);
        check.dueFault("r1;r1;tb-r21;", 6);
        check.dueFault("r1;".repeat(6) + "tb-r51;", NONE);
        check.dueFault("r1;".repeat(6) + "tb-r61;", 18);
        check.dueFault("r1;".repeat(6) + "tb-r91;", 18);
        for (char figure : "/:-ar ".toCharArray()) {
            check.dueFault("r1;tb-r" + figure + "1;", 3);
        }
        check.dueFault("r1;tb-R01;", 3);
        check.dueFault("r1;tb-r1;", 3);
        // A ROOM that is told behind it is none yet.
        check.dueFault("r1;tb-r11;r1;", 3);
        check.dueFault("tb-r01;r1;", 0);
        Rooms rooms = Check.laid("r1;r1;r1;tb-r21;tb-r01;tb-r11;");
        check.dueRow("room of thing", t -> rooms.thing(t, 3), 2, 0, 1);
        check.dueRow("is in a room", t -> rooms.thing(t, 2), 0, 0, 0);
    }

    private static void placesInThings(Check check) {
        check.dueFault("r1;ta-r01c;tb-001;", NONE);
        check.dueFault("r1;ta-r01s;tb-001;", NONE);
        check.dueFault("r1;ta-r01;tb-001;", 10);
        check.dueFault("r1;ta-r01ofl;tb-001;", 13);
        // It is none itself yet, and none that comes behind it is there.
        check.dueFault("r1;ta-001c;", 3);
        check.dueFault("r1;ta-r01c;tb-011c;", 11);
        check.dueFault("r1;tb-011;ta-r01c;", 3);
        check.dueFault("r1;ta-r01c;tb-0;", 11);
        check.dueFault("r1;ta-r01c;tb-01;", 11);
        check.dueFault("r1;ta-r01c;tb-0001;", 11);
        check.dueFault("r1;ta-r01c;tb-0r1;", 11);
        // The letters next to the figures would make 00, if they were taken for figures.
        check.dueFault("r1;ta-r01c;tb-/:1;", 11);
        check.dueFault("r1;" + "ta-r01c;".repeat(11) + "tb-101;", NONE);
        check.dueFault("r1;" + "ta-r01c;".repeat(11) + "tb-0:1;", 91);
        check.dueFault("r1;" + "ta-r01c;".repeat(11) + "tb-1/1;", 91);
        String fifteen = "r1;" + "ta-r01c;".repeat(15);
        check.dueFault(fifteen + "tb-141;", NONE);
        check.dueFault(fifteen + "tb-151;", fifteen.length());
        check.dueFault(fifteen + "tb-161;", fifteen.length());
        check.dueFault(fifteen + "tb-991;", fifteen.length());
        Rooms rooms = Check.laid(fifteen + "tb-141;");
        check.due("is in a thing", rooms.thing(15, 2), 1);
        check.due("which", rooms.thing(15, 3), 14);
        Rooms second = Check.laid("r1;ta-r01;ta-r01s;tb-011;");
        check.due("on which", second.thing(2, 3), 1);
    }

    private static void weights(Check check) {
        for (char weight = ' '; weight <= '~'; weight++) {
            check.dueFault("r1;tb-r0" + weight + ";", weight >= '1' && weight <= '9' ? NONE : 3);
        }
        check.dueFault("r1;tb-r010;", 3);
        check.dueFault("r1;tb-r0;", 3);
        Rooms rooms = Check.laid("r1;tb-r01;tb-r09;tb-r05;");
        check.dueRow("weight", t -> rooms.thing(t, 4), 1, 9, 5);
    }

    private static void nounWords(Check check) {
        String[] words = "box key lamp coin bag table chest book cup rope ball door".split(" ");
        for (int noun = 0; noun < 12; noun++) {
            Rooms rooms = Check.laid("r1;t" + (char) ('a' + noun) + "-r01;");
            for (int word = 0; word < 12; word++) {
                if (word != noun) {
                    check.dueSaid(rooms, "take " + words[word], 3);
                }
            }
            check.dueSaid(rooms, "take " + words[noun], 0);
        }
    }

    private static void adjectiveWords(Check check) {
        String[] words = "red blue old new big small gold iron".split(" ");
        for (int adjective = 0; adjective < 8; adjective++) {
            Rooms rooms = Check.laid("r1;tb" + (char) ('a' + adjective) + "r01;");
            for (int word = 0; word < 8; word++) {
                if (word != adjective) {
                    check.dueSaid(rooms, "take " + words[word] + " key", 3);
                }
            }
            check.dueSaid(rooms, "take " + words[adjective] + " key", 0);
        }
        Rooms none = Check.laid("r1;tb-r01;");
        for (String word : words) {
            check.dueSaid(none, "take " + word + " key", 3);
        }
    }

    private static void traits(Check check) {
        check.holds("X its TRAITS, none or some of these in this order", HouseSentencesTest::orderOfTraits);
        check.holds("c (it is a BOX) or s (a SHELF)", HouseSentencesTest::boxOrShelf);
        check.holds("o (it can be OPEN; CLOSED is what has o and is not OPEN, as at first)", HouseSentencesTest::closedAtFirst);
        check.holds("f (FIXED)", HouseSentencesTest::fixed);
        check.holds("l (a LAMP)", HouseSentencesTest::lamp);
        check.holds("kNN (only with o", HouseSentencesTest::keyOnlyWithO);
        check.holds("it is LOCKED at first", HouseSentencesTest::lockedAtFirst);
        check.holds("THING NN, that there is ahead of it, is its KEY", HouseSentencesTest::keyIsAhead);
    }

    private static void orderOfTraits(Check check) {
        String[] one = {"c", "s", "o", "f", "l", "k00"};
        for (int first = 0; first < one.length; first++) {
            for (int second = 0; second < one.length; second++) {
                boolean inOrder = first < second && !(first == 0 && second == 1);
                // Its o is what a k asks for, so it is told of both sorts with and without.
                boolean asTold = inOrder && (second != 5 || first == 2);
                check.dueFault("r1;tb-r01;ta-r01" + one[first] + one[second] + ";", asTold ? NONE : 10);
            }
        }
        for (String asTold : new String[] {"", "cofl", "sofl", "coflk00", "soflk00", "oflk00", "olk00", "ofk00", "cok00", "col", "cfl", "sol"}) {
            check.dueFault("r1;tb-r01;ta-r01" + asTold + ";", NONE);
        }
        for (String wrong : new String[] {"ocfl", "cfol", "colf", "cok00f", "cok00l", "ok00k00", "C", "O", "x", "-", " ", "c o"}) {
            check.dueFault("r1;tb-r01;ta-r01" + wrong + ";", 10);
        }
    }

    private static void boxOrShelf(Check check) {
        Rooms rooms = Check.laid("r1;ta-r01;ta-r01c;ta-r01s;ta-r01co;ta-r01so;");
        check.dueRow("neither, box or shelf", t -> rooms.thing(t, 12), 0, 1, 2, 1, 2);
        check.dueFault("r1;ta-r01cs;", 3);
        check.dueFault("r1;ta-r01sc;", 3);
    }

    private static void closedAtFirst(Check check) {
        Rooms rooms = Check.laid("r1;ta-r01;ta-r01o;ta-r01co;ta-r01so;ta-r01c;tb-021;tb-031;tb-041;");
        check.dueRow("open", t -> rooms.thing(t, 6), NONE, 0, 0, 0, NONE, NONE, NONE, NONE);
        check.dueRow("close", t -> rooms.would(5, t, 0), 8, 9, 9, 9, 8);
        check.dueRow("open", t -> rooms.would(4, t, 0), 8, 0, 0, 0, 8);
        // A BOX without o is neither OPEN nor CLOSED: what is in it is OUT.
        check.dueRow("seen", t -> rooms.thing(t, 10), 1, 1, 1, 1, 1, 0, 1, 1);
        check.due("look in the box without o", rooms.would(10, 4, 0), 0);
        check.due("look in the closed box", rooms.would(10, 2, 0), 6);
    }

    private static void fixed(Check check) {
        Rooms rooms = Check.laid("r1;tb-r01;tb-r01f;tb-r01of;tb-r01l;");
        check.dueRow("fixed", t -> rooms.thing(t, 13), 0, 1, 1, 0);
        check.dueRow("take", t -> rooms.would(0, t, 0), 0, 8, 8, 0);
    }

    private static void lamp(Check check) {
        Rooms rooms = Check.laid("r1;tc-r01;tb-r01l;tb-r01fl;tb-r01f;");
        check.dueRow("on", t -> rooms.thing(t, 8), NONE, 0, 0, NONE);
        check.dueRow("oil", t -> rooms.thing(t, 9), NONE, 20, 20, NONE);
        check.dueRow("light", t -> rooms.would(8, t, 0), 8, 13, 13, 8);
    }

    private static void keyOnlyWithO(Check check) {
        check.dueFault("r1;tb-r01;ta-r01ok00;", NONE);
        check.dueFault("r1;tb-r01;ta-r01k00;", 10);
        check.dueFault("r1;tb-r01;ta-r01ck00;", 10);
        check.dueFault("r1;tb-r01;ta-r01fk00;", 10);
        check.dueFault("r1;tb-r01;ta-r01lk00;", 10);
        // One with o ahead of it is no leave.
        check.dueFault("r1;ta-r01o;ta-r01k00;", 11);
    }

    private static void lockedAtFirst(Check check) {
        Rooms rooms = Check.laid("r1;tb-r01;ta-r01ok00;ta-r01o;ta-r01cok00;");
        check.dueRow("locked", t -> rooms.thing(t, 7), NONE, 1, NONE, 1);
        check.dueRow("open", t -> rooms.would(4, t, 0), 8, 7, 0, 7);
        check.dueRow("is open", t -> rooms.thing(t, 6), NONE, 0, 0, 0);
    }

    private static void keyIsAhead(Check check) {
        check.dueFault("r1;tb-r01;ta-r01ok01;", 10);
        check.dueFault("r1;ta-r01ok00;", 3);
        check.dueFault("r1;ta-r01ok01;tb-r01;", 3);
        check.dueFault("r1;tb-r01;ta-r01ok0;", 10);
        check.dueFault("r1;tb-r01;ta-r01ok;", 10);
        check.dueFault("r1;tb-r01;ta-r01ok000;", 10);
        check.dueFault("r1;tb-r01;ta-r01ok0a;", 10);
        check.dueFault("r1;tb-r01;ta-r01ok-0;", 10);
        check.dueFault("r1;tb-r01;ta-r01ok/:;", 10);
        check.dueFault("r1;" + "tb-r01;".repeat(11) + "ta-r01ok0:;", 80);
        check.dueFault("r1;" + "tb-r01;".repeat(11) + "ta-r01ok1/;", 80);
        String fifteen = "r1;" + "tb-r01;".repeat(15);
        check.dueFault(fifteen + "ta-r01ok14;", NONE);
        check.dueFault(fifteen + "ta-r01ok15;", fifteen.length());
        check.dueFault(fifteen + "ta-r01ok16;", fifteen.length());
        Rooms rooms = Check.laid(fifteen + "ta-r01ok14;");
        check.due("key", rooms.thing(15, 11), 14);
        check.due("key of what has none", rooms.thing(14, 11), NONE);
        // Any THING may be a KEY, and of several.
        Rooms two = Check.laid("r1;tk-r01;ta-r01ok00;tg-r01ok01;tg-r01ok00;");
        check.dueRow("key", t -> two.thing(t, 11), NONE, 0, 1, 0);
    }

    private static void ways(Check check) {
        check.holds("a WAY from ROOM A to ROOM B (unlike ones, that there are)", HouseSentencesTest::waysOfRooms);
        check.holds("by X (n, s, e, w)", HouseSentencesTest::sides);
        check.holds("and from B to A by the opposite (n and s, e and w)", HouseSentencesTest::opposites);
        check.holds("A has none by X yet", HouseSentencesTest::noneByXYet);
        check.holds("B none by the opposite", HouseSentencesTest::noneByTheOpposite);
    }

    private static void waysOfRooms(Check check) {
        check.dueFault("r1;r1;d01n;", NONE);
        check.dueFault("r1;r1;d10n;", NONE);
        check.dueFault("r1;d00n;", 3);
        check.dueFault("r1;r1;d00n;", 6);
        check.dueFault("r1;r1;d11n;", 6);
        check.dueFault("r1;r1;d02n;", 6);
        check.dueFault("r1;r1;d20n;", 6);
        check.dueFault("r1;d01n;", 3);
        check.dueFault("r1;d01n;r1;", 3);
        check.dueFault("r1;".repeat(6) + "d54n;", NONE);
        check.dueFault("r1;".repeat(6) + "d56n;", 18);
        check.dueFault("r1;".repeat(6) + "d65n;", 18);
        check.dueFault("r1;r1;d/1n;", 6);
        check.dueFault("r1;r1;d1/n;", 6);
        check.dueFault("r1;r1;d1n;", 6);
        check.dueFault("r1;r1;dn;", 6);
    }

    private static void sides(Check check) {
        for (char side = ' '; side <= '~'; side++) {
            check.dueFault("r1;r1;d01" + side + ";", "nsew".indexOf(side) >= 0 ? NONE : 6);
        }
        check.dueFault("r1;r1;d01;", 6);
        check.dueFault("r1;r1;d01ns;", 6);
    }

    private static void opposites(Check check) {
        int[] opposite = {1, 0, 3, 2};
        for (int side = 0; side < 4; side++) {
            Rooms rooms = Check.laid("r1;r1;d01" + "nsew".charAt(side) + ";");
            for (int by = 0; by < 4; by++) {
                check.due("way from 0 by " + by, rooms.way(0, by), by == side ? 1 : NONE);
                check.due("way from 1 by " + by, rooms.way(1, by), by == opposite[side] ? 0 : NONE);
            }
        }
        Rooms back = Check.laid("r1;r1;r1;d20e;");
        check.due("way from 2", back.way(2, 2), 0);
        check.due("way from 0", back.way(0, 3), 2);
    }

    private static void noneByXYet(Check check) {
        for (char side : "nsew".toCharArray()) {
            check.dueFault("r1;r1;r1;d01" + side + ";d02" + side + ";", 14);
        }
        // A's way by X came from the other end.
        check.dueFault("r1;r1;r1;d10s;d02n;", 14);
        check.dueFault("r1;r1;r1;d10n;d02n;", NONE);
        check.dueFault("r1;r1;r1;d01n;d02s;d12n;", NONE);
        check.dueFault("r1;r1;r1;r1;r1;d01n;d02s;d03e;d04w;", NONE);
        check.dueFault("r1;r1;r1;r1;r1;r1;d01n;d02s;d03e;d04w;d05w;", 38);
    }

    private static void noneByTheOpposite(Check check) {
        check.dueFault("r1;r1;r1;d01n;d21n;", 14);
        check.dueFault("r1;r1;r1;d01s;d21s;", 14);
        check.dueFault("r1;r1;r1;d01e;d21e;", 14);
        check.dueFault("r1;r1;r1;d01w;d21w;", 14);
        check.dueFault("r1;r1;r1;d10s;d20s;", 14);
        check.dueFault("r1;r1;r1;d01n;d21s;", NONE);
        // Both ends are taken: the same way once more, from either end.
        check.dueFault("r1;r1;d01n;d01n;", 11);
        check.dueFault("r1;r1;d01n;d10s;", 11);
        check.dueFault("r1;r1;d01n;d10n;", NONE);
    }

    private static void doors(Check check) {
        check.holds("dABXNN likewise, with a DOOR: THING NN, that there is", HouseSentencesTest::doorIsThere);
        check.holds("in ROOM A, with o and f", HouseSentencesTest::doorInRoomA);
        check.holds("with o and f, without c and s", HouseSentencesTest::doorOpensAndIsFixed);
        check.holds("without c and s, no DOOR yet", HouseSentencesTest::doorHoldsNothing);
        check.holds("no DOOR yet", HouseSentencesTest::noDoorYet);
        check.holds("likewise, with a DOOR", HouseSentencesTest::waysWithDoorsLikewise);
    }

    private static void doorIsThere(Check check) {
        check.dueFault(DOOR + "d01n00;", NONE);
        check.dueFault(DOOR + "d01n01;", 15);
        check.dueFault("r1;r1;d01n00;tl-r09of;", 6);
        check.dueFault("r1;r1;d01n00;", 6);
        check.dueFault(DOOR + "d01n0;", 15);
        check.dueFault(DOOR + "d01n000;", 15);
        check.dueFault(DOOR + "d01n0a;", 15);
        check.dueFault(DOOR + "d01n/:;", 15);
        check.dueFault(DOOR + "d01n 00;", 15);
        check.dueFault(DOOR + "d01n99;", 15);
        String sixteen = "r1;r1;" + "tb-r01;".repeat(15) + "tl-r09of;";
        check.dueFault(sixteen + "d01n15;", NONE);
        check.dueFault(sixteen + "d01n16;", sixteen.length());
        Rooms rooms = Check.laid(sixteen + "d01n15;");
        check.due("door", rooms.door(0, 0), 15);
        check.due("door from behind", rooms.door(1, 1), 15);
    }

    private static void doorInRoomA(Check check) {
        check.dueFault("r1;r1;tl-r19of;d01n00;", 15);
        check.dueFault("r1;r1;tl-r19of;d10n00;", NONE);
        check.dueFault("r1;r1;r1;tl-r29of;d01n00;", 18);
        // In a box or on a shelf that is in ROOM A it is not in ROOM A.
        check.dueFault("r1;r1;ta-r01c;tl-009of;d01n01;", 23);
        check.dueFault("r1;r1;ta-r01s;tl-009of;d01n01;", 23);
    }

    private static void doorOpensAndIsFixed(Check check) {
        check.dueFault("r1;r1;tl-r09o;d01n00;", 14);
        check.dueFault("r1;r1;tl-r09f;d01n00;", 14);
        check.dueFault("r1;r1;tl-r09;d01n00;", 13);
        check.dueFault("r1;r1;tl-r09ol;d01n00;", 15);
        check.dueFault("r1;r1;tl-r09ofl;d01n00;", NONE);
        check.dueFault("r1;r1;tb-r01;tl-r09ofk00;d01n01;", NONE);
        check.dueFault("r1;r1;ta-r09of;d01n00;", NONE);
    }

    private static void doorHoldsNothing(Check check) {
        check.dueFault("r1;r1;tl-r09cof;d01n00;", 16);
        check.dueFault("r1;r1;tl-r09sof;d01n00;", 16);
    }

    private static void noDoorYet(Check check) {
        check.dueFault(DOOR + "d01n00;d01s00;", 22);
        check.dueFault("r1;r1;r1;tl-r09of;d01n00;d02s00;", 25);
        check.dueFault(DOOR + "tl-r09of;d01n00;d01s01;d01e00;", 38);
        check.dueFault(DOOR + "tl-r09of;d01n00;d01s01;d01e01;", 38);
        check.dueFault(DOOR + "tl-r09of;d01n00;d01s01;", NONE);
        check.dueFault(DOOR + "tl-r19of;d01n00;d10n01;", NONE);
        check.dueFault(DOOR + "d01s;d01n00;", NONE);
    }

    private static void waysWithDoorsLikewise(Check check) {
        check.dueFault(DOOR + "d00n00;", 15);
        check.dueFault(DOOR + "d02n00;", 15);
        check.dueFault(DOOR + "d01u00;", 15);
        check.dueFault(DOOR + "d01n;d01n00;", 20);
        check.dueFault(DOOR + "d10s;d01n00;", 20);
        check.dueFault("r1;r1;r1;tl-r09of;d12n;d01n00;", NONE);
        check.dueFault("r1;r1;r1;tl-r09of;d21n;d01n00;", 23);
        Rooms rooms = Check.laid(DOOR + "d01e00;");
        check.due("way", rooms.way(0, 2), 1);
        check.due("way back", rooms.way(1, 3), 0);
    }

    private static void faults(Check check) {
        check.holds("the place of the first letter of the first ITEM that is not so", HouseSentencesTest::firstFault);
        check.holds("FAULT of THE TEXT as a HOUSE. NONE.", HouseSentencesTest::faultOrNone);
    }

    private static void firstFault(Check check) {
        check.dueFault("x", 0);
        check.dueFault("r2;x;", 0);
        check.dueFault("r1;r2;x;", 3);
        check.dueFault("r1;tb-r01;tm-r01;r7;", 10);
        // Not where in the ITEM it is.
        check.dueFault("r1;tb-r01x;", 3);
        check.dueFault("r1;r1;tl-r09of;d01n01;d00n;", 15);
        // An ITEM that is wrong leaves those behind it unread, right or wrong.
        check.dueFault("r1;d01n;r1;", 3);
        check.dueFault("r1;".repeat(80), 18);
        String house = "r1;" + "tb-r01;".repeat(16);
        check.dueFault(house + "r1;".repeat(4) + "x", 3 + 16 * 7 + 12);
        String full = "r1;r1;" + "tb-r01ofl;".repeat(16) + "d01n;d01s;d01e;d01w;";
        check.dueFault(full + ";", full.length());
    }

    private static void faultOrNone(Check check) {
        check.dueFault("", NONE);
        check.dueFault("r0;", NONE);
        check.dueFault(FIRST_HOUSE, NONE);
        // As many ROOMS, THINGS and letters as there can be.
        String full = "r1;".repeat(6) + "tb-r01cofl;".repeat(14) + "tb-r01coflk00;".repeat(2)
            + "d01n;d01s;d01e;d01w;d23n;d23s;d23e;d23w;";
        check.due("letters", full.length(), 240);
        check.dueFault(full, NONE);
        check.due("lay() of 240 letters", Check.typed(full).lay(), 6);
        check.dueFault(full + "x", NONE);
        // The last ; found no place.
        check.dueFault(full.substring(0, 235) + "d45w00;", 235);
        // To ask changes nothing, whether the text has a fault or none.
        for (String house : new String[] {"r0;r0;r0;tcar01l;taar01co;tb-011;d02e;", "r0;r0;taar01cofl;d01n;d01n;"}) {
            Rooms rooms = Check.laid("r1;r1;tb-r01;tc-r01l;d01s;");
            check.done(rooms, "take lamp", "light lamp");
            Check.type(rooms, house);
            String before = Check.look(rooms);
            rooms.fault();
            check.dueLook("fault()", rooms, before);
            check.due("undo()", rooms.undo(), 1);
        }
    }

    private static void newObject(Check check) {
        check.holds("at first " + FIRST_HOUSE, HouseSentencesTest::firstHouse);
        check.holds("As told; THE TEXT is empty.", HouseSentencesTest::emptyText);
        check.holds("YOU are in ROOM 0 then, HOLD nothing", HouseSentencesTest::youBegin);
        check.holds("OIL of each LAMP is 20, all are OFF", HouseSentencesTest::lampsBegin);
    }

    private static void firstHouse(Check check) {
        Rooms laid = Check.laid(FIRST_HOUSE);
        laid.wipe();
        check.dueLook("laying the first house", laid, Check.look(new Rooms()));
        Rooms rooms = new Rooms();
        check.dueRow("noun", t -> rooms.thing(t, 0), 5, 0, 0, 1, 1, 2, 3, 6, 3, 11, BAD);
        check.dueRow("adjective", t -> rooms.thing(t, 1), NONE, 0, 1, 6, 7, 2, 6, 4, 2, 7, BAD);
        check.dueRow("where", t -> rooms.thing(t, 3), 0, 0, 0, 1, 1, 0, 2, 2, 7, 1, BAD);
        check.dueRow("how", t -> rooms.thing(t, 2), 0, 1, 0, 1, 0, 1, 1, 0, 1, 0, BAD);
        check.dueRow("weight", t -> rooms.thing(t, 4), 9, 2, 2, 1, 1, 3, 1, 9, 1, 9, BAD);
        check.dueRow("open", t -> rooms.thing(t, 6), NONE, 0, 0, NONE, NONE, NONE, NONE, 0, NONE, 0, BAD);
        check.dueRow("locked", t -> rooms.thing(t, 7), NONE, NONE, NONE, NONE, NONE, NONE, NONE, 1, NONE, 1, BAD);
        check.dueRow("oil", t -> rooms.thing(t, 9), NONE, NONE, NONE, NONE, NONE, 20, NONE, NONE, NONE, NONE, BAD);
        check.dueRow("key", t -> rooms.thing(t, 11), NONE, NONE, NONE, NONE, NONE, NONE, NONE, 3, NONE, 4, BAD);
        check.dueRow("holds", t -> rooms.thing(t, 12), 2, 1, 1, 0, 0, 0, 0, 1, 0, 0, BAD);
        check.dueRow("fixed", t -> rooms.thing(t, 13), 1, 0, 0, 0, 0, 0, 0, 1, 0, 1, BAD);
        check.dueRow("light", r -> rooms.room(r, 0), 1, 1, 0, BAD);
        check.dueRow("way from 0", by -> rooms.way(0, by), 1, NONE, NONE, NONE);
        check.dueRow("way from 1", by -> rooms.way(1, by), NONE, 0, 2, NONE);
        check.dueRow("way from 2", by -> rooms.way(2, by), NONE, NONE, NONE, 1);
        check.dueRow("door from 1", by -> rooms.door(1, by), NO, NONE, 9, NO);
    }

    private static void emptyText(Check check) {
        Rooms rooms = new Rooms();
        check.due("letters", rooms.count(7), 0);
        check.due("wipe()", rooms.wipe(), 0);
        check.due("write('a')", rooms.write('a'), 1);
        Rooms other = new Rooms();
        check.due("fault()", other.fault(), NONE);
        check.due("lay()", other.lay(), NO);
        check.due("say()", other.say(), 1);
        // Two objects share nothing.
        rooms.write('b');
        check.due("letters of the other", other.count(7), 0);
        check.done(rooms, "take lamp");
        check.due("the other's lamp", other.thing(5, 2), 1);
    }

    private static void youBegin(Check check) {
        Rooms rooms = new Rooms();
        check.done(rooms, "take all", "n");
        Check.type(rooms, "r1;r1;tb-r01;tb-r01;tb-r01;");
        check.due("lay()", rooms.lay(), 2);
        check.due("your room", rooms.count(2), 0);
        check.due("with you", rooms.count(8), 0);
        check.dueRow("is in a room", t -> rooms.thing(t, 2), 0, 0, 0, BAD);
        // Also in a house that is dark where you begin.
        Rooms dark = Check.laid("r0;r1;tb-r11;");
        check.due("your room", dark.count(2), 0);
    }

    private static void lampsBegin(Check check) {
        Rooms one = Check.laid("r1;tc-r01l;tb-r01;tcar01l;");
        check.done(one, "take red lamp", "light red lamp", "wait");
        check.due("oil", one.thing(2, 9), 18);
        Check.type(one, "r1;tc-r01l;tb-r01;tcar01l;tcbr01fl;");
        check.due("lay()", one.lay(), 1);
        check.dueRow("oil", t -> one.thing(t, 9), 20, NONE, 20, 20);
        check.dueRow("on", t -> one.thing(t, 8), 0, NONE, 0, 0);
    }

    private static void writing(Check check) {
        check.holds("THE TEXT is letters (240 at most).", HouseSentencesTest::mostLetters);
        check.holds("A letter (32 to 126, as in ASCII) comes behind THE TEXT: how long it is. BAD; FULL.", HouseSentencesTest::letters);
        check.holds("THE TEXT is empty: how long it was.", HouseSentencesTest::wiping);
    }

    private static void mostLetters(Check check) {
        Rooms rooms = new Rooms();
        for (int length = 1; length <= 240; length++) {
            check.due("write", rooms.write('x'), length);
        }
        check.due("write one more", rooms.write('x'), FULL);
        check.due("write one more", rooms.write('y'), FULL);
        check.due("letters", rooms.count(7), 240);
        check.due("wipe()", rooms.wipe(), 240);
        check.due("write again", rooms.write('x'), 1);
        // The letter that found no place is not in the text.
        String full = "r1;".repeat(6) + "x".repeat(222);
        check.dueFault(full + ";", 18);
        String sentence = "n ".repeat(119) + "in";
        check.due("say() of a text whose last letter found no place", Check.typed(sentence + "x").say(), 2);
    }

    private static void letters(Check check) {
        Rooms rooms = new Rooms();
        for (int letter = 32; letter <= 126; letter++) {
            check.due("write(" + letter + ")", rooms.write(letter), letter - 31);
        }
        for (int letter : new int[] {31, 127, 0, -1, 9, 10, 13, 128, 255, 256 + 97, 65536 + 97, -97, 97 - 256,
            Integer.MAX_VALUE, Integer.MIN_VALUE, Integer.MIN_VALUE + 97}) {
            check.due("write(" + letter + ")", rooms.write(letter), BAD);
        }
        check.due("letters", rooms.count(7), 95);
        for (int length = 96; length <= 240; length++) {
            check.due("write", rooms.write('x'), length);
        }
        check.due("BAD comes ahead of FULL, too small", rooms.write(31), BAD);
        check.due("BAD comes ahead of FULL, too large", rooms.write(127), BAD);
        check.due("FULL", rooms.write(32), FULL);
        check.due("FULL", rooms.write(126), FULL);
        // It comes behind, not ahead of the text.
        check.due("say() of what was typed in order", Check.typed("wait").say(), 0);
    }

    private static void wiping(Check check) {
        Rooms rooms = new Rooms();
        check.due("wipe() of none", rooms.wipe(), 0);
        rooms.write('n');
        check.due("wipe() of one", rooms.wipe(), 1);
        check.due("letters", rooms.count(7), 0);
        check.due("wipe() again", rooms.wipe(), 0);
        check.due("say() of none", rooms.say(), 1);
        for (char letter : "take lamp from rope".toCharArray()) {
            rooms.write(letter);
        }
        check.due("wipe()", rooms.wipe(), 19);
        for (char letter : "wait".toCharArray()) {
            rooms.write(letter);
        }
        check.due("nothing of the old text is left behind the new", rooms.say(), 0);
        String before = Check.look(new Rooms());
        Rooms other = new Rooms();
        other.wipe();
        check.dueLook("wipe()", other, before);
    }

    private static void laying(Check check) {
        check.holds("LAID is a TEXT without FAULT, with a ROOM (NO else", HouseSentencesTest::notLaid);
        check.holds("LAID: how many ROOMS", HouseSentencesTest::howManyRooms);
        check.holds("no TURNS, no IT, no DOUBT, TOLD 0, nothing can be UNDONE; THE TEXT stays. NO.", HouseSentencesTest::laidAnew);
    }

    private static void notLaid(Check check) {
        check.due("lay() of no text", new Rooms().lay(), NO);
        for (String house : new String[] {"x", "r1", "r1;x", "r1;r1;d00n;", "tb-r01;", "r1;;", " ", "wait"}) {
            check.due("lay() of \"" + house + "\"", Check.typed(house).lay(), NO);
        }
        check.due("lay() of one room", Check.typed("r0;").lay(), 1);
        Rooms wiped = Check.laid("r1;");
        wiped.wipe();
        check.due("lay() of a text that is empty again", wiped.lay(), NO);
        check.due("rooms", wiped.count(0), 1);
    }

    private static void howManyRooms(Check check) {
        for (int rooms = 1; rooms <= 6; rooms++) {
            check.due("lay()", Check.typed("r1;".repeat(rooms) + "tb-r01;").lay(), rooms);
        }
        Rooms laid = Check.typed("r1;r0;");
        check.due("lay()", laid.lay(), 2);
        check.due("rooms", laid.count(0), 2);
        check.due("things", laid.count(1), 0);
    }

    private static void laidAnew(Check check) {
        String house = "r1;r1;tbar01;tbbr01;d01n;";
        Rooms rooms = Check.laid(house);
        String fresh = Check.look(rooms);
        check.done(rooms, "look", "take blue key", "drop it", "n", "s");
        check.dueSaid(rooms, "take key", 4);
        check.due("told", rooms.count(4), 2);
        check.due("it", rooms.count(5), 1);
        check.due("can be undone", rooms.count(6), 5);
        Check.type(rooms, house);
        check.due("lay()", rooms.lay(), 2);
        check.dueLook("lay() again", rooms, fresh);
        check.due("letters", rooms.count(7), house.length());
        check.due("undo()", rooms.undo(), NO);
        check.due("fault() of the text that stays", rooms.fault(), NONE);
        check.dueSaid(rooms, "take it", 3);
        check.dueSaid(rooms, "red", 2);
        nothingIsLeft(check);
    }

    /** Of the houses before: their light, ways and doors, and the TRAITS of their THINGS. */
    private static void nothingIsLeft(Check check) {
        String[] full = {"r1;r1;ta-r01cofl;tb-r09of;ta-r01cofk00;tf-r01sol;tl-r09of;d01n01;d01s04;",
            "r1;r1;tf-r01so;tf-r01sl;tb-r01ok00;ta-r09of;tl-r09of;d01e03;d01w04;"};
        String bare = "r0;r0;" + "tb-r01;".repeat(5) + "d10n;";
        Rooms rooms = Check.laid(bare);
        String fresh = Check.look(rooms);
        for (String house : full) {
            Check.type(rooms, house);
            check.due("lay()", rooms.lay(), 2);
        }
        Check.type(rooms, bare);
        check.due("lay()", rooms.lay(), 2);
        check.dueLook("lay() behind full houses", rooms, fresh);
        // None of the doors of a house that was told before is one.
        Rooms told = Check.typed(full[0]);
        check.due("fault()", told.fault(), NONE);
        check.due("fault() again", told.fault(), NONE);
        // What was open, locked or on is not so any more, in the next house.
        Rooms played = Check.laid("r1;tb-r01;ta-r01cok00;tc-r01l;");
        check.done(played, "take all", "unlock box with key", "open box", "light lamp");
        Check.type(played, "r1;tb-r01;ta-r01co;tc-r01fl;tl-r01o;");
        check.due("lay()", played.lay(), 1);
        check.dueRow("open", t -> played.thing(t, 6), NONE, 0, NONE, 0);
        check.dueRow("locked", t -> played.thing(t, 7), NONE, NONE, NONE, NONE);
        check.dueRow("on", t -> played.thing(t, 8), NONE, NONE, 0, NONE);
    }

    private static void refusals(Check check) {
        check.holds("Of several the first in the order told; nothing changes then.", check1 -> {
            writeRefused(check1);
            layRefused(check1);
        });
    }

    private static void writeRefused(Check check) {
        Rooms rooms = Check.laid("r1;");
        Check.type(rooms, "r1;".repeat(80));
        String before = Check.look(rooms);
        check.due("write()", rooms.write(31), BAD);
        check.due("write()", rooms.write('x'), FULL);
        check.dueLook("a refused write()", rooms, before);
    }

    private static void layRefused(Check check) {
        for (String house : new String[] {"", "r1;r0;tb-r01;x", "r1;r1;r1;r1;tcar01l;d01n;d00s;"}) {
            Rooms rooms = Check.laid("r0;tbar01;tbbr01;tcar01l;");
            Check.type(rooms, "wait");
            check.doneAgain(rooms, 3);
            Check.type(rooms, house);
            String before = Check.look(rooms);
            check.due("lay()", rooms.lay(), NO);
            check.dueLook("a refused lay()", rooms, before);
            check.due("undo()", rooms.undo(), 2);
        }
        Rooms doubt = Check.laid("r1;tbar01;tbbr01;");
        check.dueSaid(doubt, "take key", 4);
        String before = Check.look(doubt);
        check.due("lay() of a sentence", doubt.lay(), NO);
        check.due("fault() of a sentence", doubt.fault(), 0);
        check.dueLook("a refused lay() in doubt", doubt, before);
        check.dueSaid(doubt, "red", 0);
    }
}
