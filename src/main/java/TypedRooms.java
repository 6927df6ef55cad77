/**
 * Typed adventures in a small house, as ../shared/DOC.md promises them.
 * Words in capitals are the document's terms; a set of THINGS is the bits of an int.
 */
public final class TypedRooms {
    public static final int BAD = -1, NO = -2, FULL = -3, NONE = -4;

    private static final int LETTERS = 240;
    private static final int ROOMS = 6;
    private static final int THINGS = 16;
    private static final int SIDES = 4;
    private static final int FULL_OIL = 20;
    private static final int MOST_WEIGHT = 12;
    private static final int MOST_UNDONE = 8;

    // A PLACE is one number: a ROOM's own, ROOMS plus a THING's own, or one of these.
    private static final int HELD = ROOMS + THINGS;
    private static final int NOWHERE = HELD + 1;

    private static final int TAKE = 0, DROP = 1, PUT_IN = 2, PUT_ON = 3, OPEN = 4, CLOSE = 5;
    private static final int LOCK = 6, UNLOCK = 7, LIGHT = 8, DOUSE = 9, LOOK_IN = 10, TAKE_FROM = 11;

    private static final int DONE = 0, NO_WORD = 1, NO_SENTENCE = 2, FITS_NONE = 3, IN_DOUBT = 4;
    private static final int DARK = 5, IS_CLOSED = 6, IS_LOCKED = 7, NOT_SUCH = 8, ALREADY = 9;
    private static final int TOO_HEAVY = 10, WRONG_KEY = 11, NO_WAY = 12, NOT_WITH_YOU = 13;
    private static final int IN_ITSELF = 14, NO_OIL = 15, IS_OPEN = 16, NOTHING = 17, NOT_THERE = 18;

    private static final String FIRST_HOUSE =
        "r1;r1;r0;tf-r09sf;taa002co;tabr02co;tbg011;tbhr11;tcc003l;tdg021;tger29cofk03;tdc071;tlhr19ofk04;d01n;d12e09;";

    private final Text text = new Text();
    private final HouseReader reader = new HouseReader(text);
    private final World world = new World();
    private final Acts acts = new Acts(world);
    private final History history = new History();
    private final Sentence sentence = new Sentence(text);
    private final Doubt doubt = new Doubt();

    public TypedRooms() {
        for (int i = 0; i < FIRST_HOUSE.length(); i++) {
            text.append(FIRST_HOUSE.charAt(i));
        }
        reader.readHouse();
        begin();
        text.clear();
    }

    // ---- told

    public int write(int letter) {
        if (letter < 32 || letter > 126) {
            return BAD;
        }
        return text.append((char) letter) ? text.length : FULL;
    }

    public int wipe() {
        return text.clear();
    }

    public int fault() {
        return reader.readHouse();
    }

    public int lay() {
        if (reader.readHouse() != NONE || reader.draft.rooms == 0) {
            return NO;
        }
        begin();
        return world.house.rooms;
    }

    // ---- said

    public int say() {
        if (!sentence.readWords()) {
            return NO_WORD;
        }
        int kind = sentence.parse(doubt.about != 0);
        if (kind == Sentence.FALSE) {
            return NO_SENTENCE;
        }
        if (kind == Sentence.ANSWER) {
            return narrowDoubt() ? settle() : FITS_NONE;
        }
        doubt.end();
        if (kind == Sentence.ACT) {
            return fitPhrases() ? settle() : FITS_NONE;
        }
        return sayWithoutPhrase(kind);
    }

    public int undo() {
        if (history.kept == 0) {
            return NO;
        }
        history.takeBack(world.state);
        doubt.end();
        return history.kept;
    }

    public int doubt() {
        return doubt.about == 0 ? NONE : doubt.fitting();
    }

    public int would(int act, int x, int y) {
        return acts.reason(act, x, y);
    }

    // ---- looked at

    public int thing(int t, int what) {
        if (!world.hasThing(t)) {
            return BAD;
        }
        House house = world.house;
        State state = world.state;
        switch (what) {
            case 0: return house.noun[t];
            case 1: return house.adjective[t];
            case 2: return state.place[t] < ROOMS ? 0 : state.place[t] < HELD ? 1 : 2;
            case 3: return state.place[t] < ROOMS ? state.place[t] : state.place[t] < HELD ? state.place[t] - ROOMS : NONE;
            case 4: return house.weight[t];
            case 5: return world.total(t);
            case 6: return has(house.openable, t) ? bitOf(state.open, t) : NONE;
            case 7: return has(house.keyed, t) ? bitOf(state.locked, t) : NONE;
            case 8: return has(house.lamps, t) ? bitOf(state.on, t) : NONE;
            case 9: return has(house.lamps, t) ? state.oil[t] : NONE;
            case 10: return bitOf(world.seen(), t);
            case 11: return house.key[t];
            case 12: return has(house.boxes, t) ? 1 : has(house.shelves, t) ? 2 : 0;
            case 13: return bitOf(house.fixed, t);
            default: return BAD;
        }
    }

    public int room(int r, int what) {
        if (!world.hasRoom(r)) {
            return BAD;
        }
        switch (what) {
            case 0: return bitOf(world.house.lights, r);
            case 1: return world.isLit(r) ? 1 : 0;
            case 2: return Integer.bitCount(world.outIn(r));
            case 3: return Integer.bitCount(world.comingTo(r));
            default: return BAD;
        }
    }

    public int way(int r, int by) {
        return world.hasSide(r, by) ? world.house.exits[r * SIDES + by] : BAD;
    }

    public int door(int r, int by) {
        if (!world.hasSide(r, by)) {
            return BAD;
        }
        int exit = r * SIDES + by;
        return world.house.exits[exit] == NONE ? NO : world.house.exitDoors[exit];
    }

    public int steps(int a, int b, int which) {
        if (!world.hasRoom(a) || !world.hasRoom(b) || which < 0 || which > 1) {
            return BAD;
        }
        int reached = 1 << a;
        for (int ways = 0; ways < ROOMS; ways++) {
            if (has(reached, b)) {
                return ways;
            }
            reached |= world.besides(reached, which == 1);
        }
        return NONE;
    }

    public int count(int what) {
        switch (what) {
            case 0: return world.house.rooms;
            case 1: return world.house.things;
            case 2: return world.state.you;
            case 3: return world.state.turns;
            case 4: return world.state.told;
            case 5: return world.state.it;
            case 6: return history.kept;
            case 7: return text.length;
            case 8: return world.weightWithYou();
            case 9: return Integer.bitCount(world.seen());
            case 10: return doubt.about == 0 ? 0 : doubt.phrases;
            case 11: return doubt.about == 0 ? NONE : doubt.about;
            default: return BAD;
        }
    }

    /** Makes the house that was just read the one that is played in. */
    private void begin() {
        House old = world.house;
        world.house = reader.draft;
        reader.draft = old;
        world.state.begin(world.house);
        history.kept = 0;
        doubt.end();
    }

    /** Takes from the PHRASE in doubt all that the ANSWER does not mean; false: it means none. */
    private boolean narrowDoubt() {
        int meant = doubt.fitting() & world.named(sentence.first);
        if (meant == 0) {
            return false;
        }
        if (doubt.about == 1) {
            doubt.first = meant;
        } else {
            doubt.second = meant;
        }
        return true;
    }

    /** Finds what the PHRASES of the SENTENCE FIT; false: one FITS none. */
    private boolean fitPhrases() {
        int seen = world.seen();
        doubt.act = sentence.act;
        doubt.phrases = needsTwo(sentence.act) ? 2 : 1;
        doubt.first = world.fitting(sentence.first, seen);
        // An ACT of one THING asks for no second one: any single stand-in lets settle() go one way.
        doubt.second = doubt.phrases == 2 ? world.fitting(sentence.second, seen) : 1;
        return doubt.first != 0 && doubt.second != 0;
    }

    /** Does the ACT if one THING for each PHRASE is left with which it CAN be done. */
    private int settle() {
        int able = 0;
        int partners = 0;
        for (int x = 0; x < THINGS; x++) {
            int with = has(doubt.first, x) ? acts.partners(doubt.act, x, doubt.second) : 0;
            if (with != 0) {
                able |= 1 << x;
                partners = with;
            }
        }
        if (isSeveral(able)) {
            doubt.first = able;
            doubt.about = 1;
            return IN_DOUBT;
        }
        if (isSeveral(partners)) {
            doubt.second = partners;
            doubt.about = 2;
            return IN_DOUBT;
        }
        doubt.end();
        if (able == 0) {
            return acts.reason(doubt.act, lowest(doubt.first), lowest(doubt.second));
        }
        history.keep(world.state);
        acts.perform(doubt.act, lowest(able), lowest(partners));
        return finish();
    }

    private int sayWithoutPhrase(int kind) {
        switch (kind) {
            case Sentence.TAKE_ALL: return takeAll();
            case Sentence.DROP_ALL: return dropAll();
            case Sentence.LOOK: return lookAround();
            case Sentence.GO: return go(sentence.side);
            default:
                history.keep(world.state);
                return finish();
        }
    }

    private int takeAll() {
        int seen = world.seen();
        boolean taken = false;
        for (int t = 0; t < THINGS; t++) {
            if (!has(seen, t) || world.comesTo(t) == HELD || acts.reason(TAKE, t, 0) != DONE) {
                continue;
            }
            if (!taken) {
                history.keep(world.state);
                taken = true;
            }
            world.state.place[t] = HELD;
        }
        return taken ? finish() : NOTHING;
    }

    private int dropAll() {
        int held = world.held();
        if (held == 0) {
            return NOTHING;
        }
        history.keep(world.state);
        for (int t = 0; t < THINGS; t++) {
            if (has(held, t)) {
                world.state.place[t] = world.state.you;
            }
        }
        return finish();
    }

    private int lookAround() {
        if (!world.isLit(world.state.you)) {
            return DARK;
        }
        history.keep(world.state);
        world.state.told = Integer.bitCount(world.seen());
        return finish();
    }

    private int go(int side) {
        int to = way(world.state.you, side);
        if (to < 0) {
            return NO_WAY;
        }
        if (!world.isPassable(world.state.you * SIDES + side)) {
            return IS_CLOSED;
        }
        history.keep(world.state);
        world.state.you = to;
        return finish();
    }

    private int finish() {
        world.state.endTurn();
        return DONE;
    }

    private static boolean needsTwo(int act) {
        return act == PUT_IN || act == PUT_ON || act == LOCK || act == UNLOCK || act == TAKE_FROM;
    }

    private static boolean has(int bits, int t) {
        return (bits >> t & 1) != 0;
    }

    private static int bitOf(int bits, int t) {
        return bits >> t & 1;
    }

    private static boolean isSeveral(int bits) {
        return (bits & (bits - 1)) != 0;
    }

    /** The lowest of the bits that are set; as many as an int has, if none is. */
    private static int lowest(int bits) {
        return Integer.bitCount((bits & -bits) - 1);
    }

    /** THE TEXT. */
    private static final class Text {
        final char[] letters = new char[LETTERS];
        int length;

        boolean append(char letter) {
            if (length >= LETTERS) {
                return false;
            }
            letters[length] = letter;
            length++;
            return true;
        }

        /** How long it was. */
        int clear() {
            int old = length;
            length = 0;
            return old;
        }
    }

    /** A house as it is told; numbers that no ROOM or THING has yet stand for none at all. */
    private static final class House {
        int rooms, things;
        /** A bit for each ROOM. */
        int lights;
        /** The ROOM that a WAY leads to, and its DOOR, by ROOM and side. */
        final int[] exits = new int[ROOMS * SIDES];
        final int[] exitDoors = new int[ROOMS * SIDES];
        final int[] noun = new int[THINGS];
        final int[] adjective = new int[THINGS];
        final int[] place = new int[THINGS];
        final int[] weight = new int[THINGS];
        final int[] key = new int[THINGS];
        /** A bit for each THING that is so. */
        int boxes, shelves, openable, fixed, lamps, keyed, doors;

        void clear() {
            rooms = 0;
            things = 0;
            lights = 0;
            for (int i = 0; i < ROOMS * SIDES; i++) {
                exits[i] = NONE;
                exitDoors[i] = NONE;
            }
            for (int t = 0; t < THINGS; t++) {
                noun[t] = NONE;
                adjective[t] = NONE;
                place[t] = NOWHERE;
                weight[t] = 0;
                key[t] = NONE;
            }
            boxes = 0;
            shelves = 0;
            openable = 0;
            fixed = 0;
            lamps = 0;
            keyed = 0;
            doors = 0;
        }
    }

    /** Reads THE TEXT as a HOUSE into a draft. */
    private static final class HouseReader {
        private static final String SIDE_LETTERS = "nsew";

        private final Text text;
        private int next;
        House draft = new House();

        HouseReader(Text text) {
            this.text = text;
        }

        /** FAULT, or NONE: the draft is the house then. */
        int readHouse() {
            draft.clear();
            next = 0;
            for (int items = 0; items < LETTERS && next < text.length; items++) {
                int start = next;
                if (!readItem()) {
                    return start;
                }
            }
            return NONE;
        }

        private boolean readItem() {
            boolean asTold;
            switch (pop()) {
                case 'r': asTold = readRoom(); break;
                case 't': asTold = readThing() && readTraits(); break;
                case 'd': asTold = readWay(); break;
                default: asTold = false;
            }
            return asTold && pop() == ';';
        }

        private boolean readRoom() {
            int light = pop() - '0';
            if (draft.rooms >= ROOMS || light < 0 || light > 1) {
                return false;
            }
            draft.lights |= light << draft.rooms;
            draft.rooms++;
            return true;
        }

        private boolean readThing() {
            int t = draft.things;
            if (t >= THINGS) {
                return false;
            }
            int noun = pop() - 'a';
            int adjective = readAdjective();
            int place = readPlace();
            int weight = pop() - '0';
            if (noun < 0 || noun >= Sentence.NOUNS || adjective == BAD || place == BAD || weight < 1 || weight > 9) {
                return false;
            }
            draft.noun[t] = noun;
            draft.adjective[t] = adjective;
            draft.place[t] = place;
            draft.weight[t] = weight;
            return true;
        }

        private int readAdjective() {
            char letter = pop();
            if (letter == '-') {
                return NONE;
            }
            int adjective = letter - 'a';
            return adjective >= 0 && adjective < Sentence.ADJECTIVES ? adjective : BAD;
        }

        private int readPlace() {
            char first = pop();
            char second = pop();
            if (first == 'r') {
                int room = second - '0';
                return room >= 0 && room < draft.rooms ? room : BAD;
            }
            int holder = numberOf(first, second);
            return isThing(holder) && has(draft.boxes | draft.shelves, holder) ? ROOMS + holder : BAD;
        }

        /** The TRAITS of the THING that readThing() began; it is there only behind them, so it is not its own KEY. */
        private boolean readTraits() {
            int t = draft.things;
            int bit = 1 << t;
            if (skip('c')) {
                draft.boxes |= bit;
            } else if (skip('s')) {
                draft.shelves |= bit;
            }
            boolean opens = skip('o');
            if (opens) {
                draft.openable |= bit;
            }
            if (skip('f')) {
                draft.fixed |= bit;
            }
            if (skip('l')) {
                draft.lamps |= bit;
            }
            int key = opens && skip('k') ? readThingNumber() : NONE;
            if (key == BAD || t >= THINGS) {
                return false;
            }
            if (key != NONE) {
                draft.keyed |= bit;
            }
            draft.key[t] = key;
            draft.things++;
            return true;
        }

        private boolean readWay() {
            int a = pop() - '0';
            int b = pop() - '0';
            int side = SIDE_LETTERS.indexOf(pop());
            if (!isRoom(a) || !isRoom(b) || a == b || side < 0 || side >= SIDES) {
                return false;
            }
            int there = a * SIDES + side;
            // The sides stand in pairs of opposites: 0 and 1, 2 and 3.
            int back = b * SIDES + (side ^ 1);
            if (draft.exits[there] != NONE || draft.exits[back] != NONE) {
                return false;
            }
            int door = NONE;
            if (peek() != ';') {
                door = readThingNumber();
                if (!isDoorIn(door, a)) {
                    return false;
                }
                draft.doors |= 1 << door;
            }
            draft.exits[there] = b;
            draft.exits[back] = a;
            draft.exitDoors[there] = door;
            draft.exitDoors[back] = door;
            return true;
        }

        private boolean isDoorIn(int t, int room) {
            return isThing(t) && draft.place[t] == room && has(draft.openable & draft.fixed, t)
                && !has(draft.boxes | draft.shelves | draft.doors, t);
        }

        /** Two figures, of a THING that there is; BAD else. */
        private int readThingNumber() {
            char tens = pop();
            int t = numberOf(tens, pop());
            return isThing(t) ? t : BAD;
        }

        private static int numberOf(char tens, char units) {
            if (tens < '0' || tens > '9' || units < '0' || units > '9') {
                return BAD;
            }
            return (tens - '0') * 10 + (units - '0');
        }

        private boolean isRoom(int r) {
            return r >= 0 && r < draft.rooms;
        }

        private boolean isThing(int t) {
            return t >= 0 && t < draft.things;
        }

        private boolean skip(char letter) {
            if (peek() != letter) {
                return false;
            }
            next++;
            return true;
        }

        /** The next letter; 0, which no letter of THE TEXT is, at the end. */
        private char peek() {
            return next < text.length && next < LETTERS ? text.letters[next] : 0;
        }

        private char pop() {
            char letter = peek();
            next++;
            return letter;
        }
    }

    /** All that a SENTENCE can change, and that is UNDONE with it. */
    private static final class State {
        final int[] place = new int[THINGS];
        final int[] oil = new int[THINGS];
        /** A bit for each THING that is so. */
        int open, locked, on;
        int you, turns, it, told;

        void begin(House house) {
            for (int t = 0; t < THINGS; t++) {
                place[t] = house.place[t];
                oil[t] = FULL_OIL;
            }
            open = 0;
            locked = house.keyed;
            on = 0;
            you = 0;
            turns = 0;
            it = NONE;
            told = 0;
        }

        void copyFrom(State other) {
            System.arraycopy(other.place, 0, place, 0, THINGS);
            System.arraycopy(other.oil, 0, oil, 0, THINGS);
            open = other.open;
            locked = other.locked;
            on = other.on;
            you = other.you;
            turns = other.turns;
            it = other.it;
            told = other.told;
        }

        void endTurn() {
            turns++;
            for (int t = 0; t < THINGS; t++) {
                if (!has(on, t)) {
                    continue;
                }
                oil[t]--;
                if (oil[t] <= 0) {
                    on &= ~(1 << t);
                }
            }
        }
    }

    /** The house and how it stands; answers what follows from both. */
    private static final class World {
        House house = new House();
        final State state = new State();

        boolean hasRoom(int r) {
            return r >= 0 && r < house.rooms;
        }

        boolean hasThing(int t) {
            return t >= 0 && t < house.things;
        }

        boolean hasSide(int r, int side) {
            return hasRoom(r) && side >= 0 && side < SIDES;
        }

        boolean isHeld(int t) {
            return state.place[t] == HELD;
        }

        /** The ROOM, or HELD, where one comes to from t, PLACE by PLACE. */
        int comesTo(int t) {
            int place = state.place[t];
            for (int i = 0; i < THINGS && place >= ROOMS && place < HELD; i++) {
                place = state.place[place - ROOMS];
            }
            return place;
        }

        /** All that t is in or on, and what that is in or on, and so on. */
        int holders(int t) {
            int holders = 0;
            int place = state.place[t];
            for (int i = 0; i < THINGS && place >= ROOMS && place < HELD; i++) {
                holders |= 1 << (place - ROOMS);
                place = state.place[place - ROOMS];
            }
            return holders;
        }

        /** All from which one comes to an end: a ROOM or HELD. */
        int comingTo(int end) {
            int bits = 0;
            for (int t = 0; t < THINGS; t++) {
                if (comesTo(t) == end) {
                    bits |= 1 << t;
                }
            }
            return bits;
        }

        /** All whose PLACE is with YOU. */
        int held() {
            return placedAt(HELD);
        }

        int placedAt(int place) {
            int bits = 0;
            for (int t = 0; t < THINGS; t++) {
                if (state.place[t] == place) {
                    bits |= 1 << t;
                }
            }
            return bits;
        }

        /** All that are OUT in a ROOM. */
        int outIn(int room) {
            int shut = house.boxes & house.openable & ~state.open;
            int bits = 0;
            for (int t = 0; t < THINGS; t++) {
                int end = comesTo(t);
                boolean isThere = end == room || end == HELD && state.you == room;
                if (isThere && (holders(t) & shut) == 0) {
                    bits |= 1 << t;
                }
            }
            return bits;
        }

        boolean isLit(int room) {
            return has(house.lights, room) || (outIn(room) & state.on) != 0;
        }

        int seen() {
            return isLit(state.you) ? outIn(state.you) | doorsOf(state.you) : held();
        }

        int doorsOf(int room) {
            int bits = 0;
            for (int exit = 0; exit < ROOMS * SIDES; exit++) {
                if (exit / SIDES == room && house.exitDoors[exit] != NONE) {
                    bits |= 1 << house.exitDoors[exit];
                }
            }
            return bits;
        }

        /** TOTAL of a THING. */
        int total(int t) {
            int sum = house.weight[t];
            for (int other = 0; other < THINGS; other++) {
                if (has(holders(other), t)) {
                    sum += house.weight[other];
                }
            }
            return sum;
        }

        /** TOTALS of all that is HELD together. */
        int weightWithYou() {
            int sum = 0;
            for (int t = 0; t < THINGS; t++) {
                if (comesTo(t) == HELD) {
                    sum += house.weight[t];
                }
            }
            return sum;
        }

        /** Whether no CLOSED DOOR bars a WAY. */
        boolean isPassable(int exit) {
            int door = exit >= 0 && exit < ROOMS * SIDES ? house.exitDoors[exit] : NONE;
            return door == NONE || has(state.open, door);
        }

        /** The ROOMS that are one WAY from any of these ROOMS. */
        int besides(int rooms, boolean byClosedDoors) {
            int bits = 0;
            for (int exit = 0; exit < ROOMS * SIDES; exit++) {
                boolean leads = has(rooms, exit / SIDES) && house.exits[exit] != NONE;
                if (leads && (byClosedDoors || isPassable(exit))) {
                    bits |= 1 << house.exits[exit];
                }
            }
            return bits;
        }

        /** All THINGS that have the words of a PHRASE, SEEN or not. */
        int named(Phrase phrase) {
            int bits = 0;
            for (int t = 0; t < THINGS; t++) {
                if (phrase.names(house.noun[t], house.adjective[t])) {
                    bits |= 1 << t;
                }
            }
            return bits;
        }

        /** What a PHRASE FITS, of those that are SEEN. */
        int fitting(Phrase phrase, int seen) {
            if (!phrase.isIt) {
                return seen & named(phrase);
            }
            return state.it == NONE ? 0 : seen & 1 << state.it;
        }
    }

    /** Which ACTS CAN be done, why not, and what comes of them. */
    private static final class Acts {
        private final World world;

        Acts(World world) {
            this.world = world;
        }

        /** REASON, DONE (0) for none; BAD. */
        int reason(int act, int x, int y) {
            if (!world.hasThing(x) || needsTwo(act) && !world.hasThing(y)) {
                return BAD;
            }
            switch (act) {
                case TAKE: return takeReason(x);
                case DROP: return world.isHeld(x) ? DONE : NOT_WITH_YOU;
                case PUT_IN: return putReason(x, y, world.house.boxes, true);
                case PUT_ON: return putReason(x, y, world.house.shelves, false);
                case OPEN: return openReason(x);
                case CLOSE: return closeReason(x);
                case LOCK: return lockReason(x, y);
                case UNLOCK: return unlockReason(x, y);
                case LIGHT: return lightReason(x);
                case DOUSE: return douseReason(x);
                case LOOK_IN: return lookInReason(x);
                case TAKE_FROM: return world.state.place[x] == ROOMS + y ? takeReason(x) : NOT_THERE;
                default: return BAD;
            }
        }

        /** Those of the seconds with which the ACT CAN be done with x. */
        int partners(int act, int x, int seconds) {
            int bits = 0;
            for (int y = 0; y < THINGS; y++) {
                if (has(seconds, y) && reason(act, x, y) == DONE) {
                    bits |= 1 << y;
                }
            }
            return bits;
        }

        private int takeReason(int x) {
            if (has(world.house.fixed, x)) {
                return NOT_SUCH;
            }
            if (world.isHeld(x)) {
                return ALREADY;
            }
            int more = world.comesTo(x) == HELD ? 0 : world.total(x);
            return world.weightWithYou() + more > MOST_WEIGHT ? TOO_HEAVY : DONE;
        }

        private int putReason(int x, int y, int holders, boolean mustBeOpen) {
            if (x == y || has(world.holders(y), x)) {
                return IN_ITSELF;
            }
            if (!world.isHeld(x)) {
                return NOT_WITH_YOU;
            }
            if (!has(holders, y)) {
                return NOT_SUCH;
            }
            if (mustBeOpen && isClosed(y)) {
                return IS_CLOSED;
            }
            int inside = world.total(y) - world.house.weight[y];
            return world.total(x) + inside > MOST_WEIGHT ? TOO_HEAVY : DONE;
        }

        private int openReason(int x) {
            if (!has(world.house.openable, x)) {
                return NOT_SUCH;
            }
            if (has(world.state.open, x)) {
                return ALREADY;
            }
            return has(world.state.locked, x) ? IS_LOCKED : DONE;
        }

        private int closeReason(int x) {
            if (!has(world.house.openable, x)) {
                return NOT_SUCH;
            }
            return isClosed(x) ? ALREADY : DONE;
        }

        private int lockReason(int x, int y) {
            if (!has(world.house.keyed, x)) {
                return NOT_SUCH;
            }
            if (has(world.state.open, x)) {
                return IS_OPEN;
            }
            return has(world.state.locked, x) ? ALREADY : keyReason(x, y);
        }

        private int unlockReason(int x, int y) {
            if (!has(world.house.keyed, x)) {
                return NOT_SUCH;
            }
            return has(world.state.locked, x) ? keyReason(x, y) : ALREADY;
        }

        private int keyReason(int x, int y) {
            if (!world.isHeld(y)) {
                return NOT_WITH_YOU;
            }
            return world.house.key[x] == y ? DONE : WRONG_KEY;
        }

        private int lightReason(int x) {
            if (!has(world.house.lamps, x)) {
                return NOT_SUCH;
            }
            if (has(world.state.on, x)) {
                return ALREADY;
            }
            if (!world.isHeld(x)) {
                return NOT_WITH_YOU;
            }
            return world.state.oil[x] <= 0 ? NO_OIL : DONE;
        }

        private int douseReason(int x) {
            if (!has(world.house.lamps, x)) {
                return NOT_SUCH;
            }
            return has(world.state.on, x) ? DONE : ALREADY;
        }

        private int lookInReason(int x) {
            if (!has(world.house.boxes, x)) {
                return NOT_SUCH;
            }
            return isClosed(x) ? IS_CLOSED : DONE;
        }

        private boolean isClosed(int x) {
            return has(world.house.openable & ~world.state.open, x);
        }

        /** Does an ACT that CAN be done. */
        void perform(int act, int x, int y) {
            if (!world.hasThing(x)) {
                return;
            }
            State state = world.state;
            int bit = 1 << x;
            switch (act) {
                case TAKE: state.place[x] = HELD; break;
                case DROP: state.place[x] = state.you; break;
                case PUT_IN: state.place[x] = ROOMS + y; break;
                case PUT_ON: state.place[x] = ROOMS + y; break;
                case OPEN: state.open |= bit; break;
                case CLOSE: state.open &= ~bit; break;
                case LOCK: state.locked |= bit; break;
                case UNLOCK: state.locked &= ~bit; break;
                case LIGHT: state.on |= bit; break;
                case DOUSE: state.on &= ~bit; break;
                case LOOK_IN: state.told = Integer.bitCount(world.placedAt(ROOMS + x)); break;
                default: state.place[x] = HELD;
            }
            state.it = x;
        }
    }

    /** How things stood ahead of the latest SENTENCES that were done, in a ring. */
    private static final class History {
        private final State[] ring = new State[MOST_UNDONE];
        private int next;
        int kept;

        History() {
            for (int i = 0; i < MOST_UNDONE; i++) {
                ring[i] = new State();
            }
        }

        void keep(State state) {
            ring[next].copyFrom(state);
            next = (next + 1) % MOST_UNDONE;
            kept = Math.min(kept + 1, MOST_UNDONE);
        }

        /** Sets the state back by one; kept must not be 0. */
        void takeBack(State state) {
            next = (next + MOST_UNDONE - 1) % MOST_UNDONE;
            kept--;
            state.copyFrom(ring[next]);
        }
    }

    /** The words of a PHRASE, or of an ANSWER, which may have no NOUN. */
    private static final class Phrase {
        boolean isIt;
        int noun, adjective;

        boolean names(int itsNoun, int itsAdjective) {
            return (noun == NONE || noun == itsNoun) && (adjective == NONE || adjective == itsAdjective);
        }
    }

    /** Reads THE TEXT as a SENTENCE. */
    private static final class Sentence {
        static final int FALSE = 0, ACT = 1, ANSWER = 2, TAKE_ALL = 3, DROP_ALL = 4, LOOK = 5, WAIT = 6, GO = 7;
        static final int NOUNS = 12, ADJECTIVES = 8;

        // A WORD's number is how many stand ahead of it here; each has a blank behind it.
        private static final String WORDS =
            "box key lamp coin bag table chest book cup rope ball door red blue old new big small gold iron take drop put open close lock unlock light douse go look wait in on from with the it all n s e w ";
        private static final int W_TAKE = 20, W_DROP = 21, W_PUT = 22, W_OPEN = 23, W_CLOSE = 24, W_LOCK = 25;
        private static final int W_UNLOCK = 26, W_LIGHT = 27, W_DOUSE = 28, W_GO = 29, W_LOOK = 30, W_WAIT = 31;
        private static final int W_IN = 32, W_ON = 33, W_FROM = 34, W_WITH = 35, W_THE = 36, W_IT = 37, W_ALL = 38;
        private static final int W_N = 39, W_S = 40, W_E = 41, W_W = 42;

        private final Text text;
        private final int[] words = new int[LETTERS / 2];
        private int count, next;
        /** What parse() found: the ACT and its PHRASES, or where to go; an ANSWER is the first. */
        int act, side;
        final Phrase first = new Phrase();
        final Phrase second = new Phrase();

        Sentence(Text text) {
            this.text = text;
        }

        /** Parts THE TEXT into WORDS; false: one is none. */
        boolean readWords() {
            count = 0;
            int start = 0;
            for (int i = 0; i <= text.length && i <= LETTERS; i++) {
                if (i < text.length && i < LETTERS && text.letters[i] != ' ') {
                    continue;
                }
                int word = wordAt(start, i);
                if (word == NONE || count >= words.length) {
                    return false;
                }
                words[count] = word;
                count++;
                start = i + 1;
            }
            return true;
        }

        /** The number of the WORD that stands from start to ahead of end; NONE. */
        private int wordAt(int start, int end) {
            int word = 0;
            int at = start;
            boolean same = true;
            for (int i = 0; i < WORDS.length(); i++) {
                char letter = WORDS.charAt(i);
                if (letter != ' ') {
                    same = same && at < end && at < LETTERS && text.letters[at] == letter;
                    at++;
                } else if (same && at == end) {
                    return word;
                } else {
                    word++;
                    at = start;
                    same = true;
                }
            }
            return NONE;
        }

        /** What kind of SENTENCE the WORDS are. */
        int parse(boolean isDoubt) {
            next = 0;
            int word = pop();
            switch (word) {
                case W_TAKE: return skip(W_ALL) ? endOf(TAKE_ALL) : readTake();
                case W_DROP: return skip(W_ALL) ? endOf(DROP_ALL) : readOne(DROP);
                case W_PUT: return readPut();
                case W_OPEN: return readOne(OPEN);
                case W_CLOSE: return readOne(CLOSE);
                case W_LOCK: return readTwo(LOCK);
                case W_UNLOCK: return readTwo(UNLOCK);
                case W_LIGHT: return readOne(LIGHT);
                case W_DOUSE: return readOne(DOUSE);
                case W_LOOK: return skip(W_IN) ? readOne(LOOK_IN) : endOf(LOOK);
                case W_WAIT: return endOf(WAIT);
                case W_GO: return goBy(pop());
                case W_N: case W_S: case W_E: case W_W: return goBy(word);
                default:
                    next = 0;
                    return isDoubt ? readAnswer() : FALSE;
            }
        }

        private int readOne(int oneAct) {
            act = oneAct;
            return readPhrase(first) ? endOf(ACT) : FALSE;
        }

        private int readTwo(int twoAct) {
            act = twoAct;
            return readPhrase(first) && skip(W_WITH) && readPhrase(second) ? endOf(ACT) : FALSE;
        }

        private int readTake() {
            if (!readPhrase(first)) {
                return FALSE;
            }
            if (!skip(W_FROM)) {
                act = TAKE;
                return endOf(ACT);
            }
            act = TAKE_FROM;
            return readPhrase(second) ? endOf(ACT) : FALSE;
        }

        private int readPut() {
            if (!readPhrase(first)) {
                return FALSE;
            }
            act = peek() == W_IN ? PUT_IN : PUT_ON;
            return (skip(W_IN) || skip(W_ON)) && readPhrase(second) ? endOf(ACT) : FALSE;
        }

        private int goBy(int word) {
            side = word - W_N;
            return side >= 0 && side < SIDES ? endOf(GO) : FALSE;
        }

        private boolean readPhrase(Phrase phrase) {
            phrase.isIt = skip(W_IT);
            if (phrase.isIt) {
                return true;
            }
            skip(W_THE);
            phrase.adjective = readAdjective();
            phrase.noun = readNoun();
            return phrase.noun != NONE;
        }

        private int readAnswer() {
            skip(W_THE);
            first.adjective = readAdjective();
            first.noun = readNoun();
            return first.noun != NONE || first.adjective != NONE ? endOf(ANSWER) : FALSE;
        }

        private int readNoun() {
            int word = peek();
            if (word < 0 || word >= NOUNS) {
                return NONE;
            }
            next++;
            return word;
        }

        private int readAdjective() {
            int word = peek();
            if (word < NOUNS || word >= NOUNS + ADJECTIVES) {
                return NONE;
            }
            next++;
            return word - NOUNS;
        }

        /** The kind, if no WORD is left. */
        private int endOf(int kind) {
            return next == count ? kind : FALSE;
        }

        private boolean skip(int word) {
            if (peek() != word) {
                return false;
            }
            next++;
            return true;
        }

        /** The next WORD; NONE at the end. */
        private int peek() {
            return next < count && next < words.length ? words[next] : NONE;
        }

        private int pop() {
            int word = peek();
            if (word != NONE) {
                next++;
            }
            return word;
        }
    }

    /** The SENTENCE that is being done or asked back about, and what its PHRASES FIT. */
    private static final class Doubt {
        /** Which PHRASE there is a DOUBT about; 0: there is no DOUBT, and the rest means nothing. */
        int about;
        int act, phrases, first, second;

        void end() {
            about = 0;
        }

        int fitting() {
            return about == 1 ? first : second;
        }
    }
}
