import java.util.ArrayDeque;
import java.util.ArrayList;
import java.util.Arrays;
import java.util.Deque;
import java.util.HashMap;
import java.util.HashSet;
import java.util.List;
import java.util.Map;
import java.util.Set;
import java.util.TreeSet;
import java.util.function.IntPredicate;
import java.util.regex.Matcher;
import java.util.regex.Pattern;

/**
 * The document once more, written as differently as it goes (patterns, sets, maps, recursion),
 * to be compared with TypedRooms on random runs.
 */
final class Reference {
    private static final int BAD = -1, NO = -2, FULL = -3, NONE = -4;
    private static final String FIRST_HOUSE = "r1;r1;r0;tf-r09sf;taa002co;tabr02co;tbg011;tbhr11;tcc003l;"
        + "tdg021;tger29cofk03;tdc071;tlhr19ofk04;d01n;d12e09;";
    private static final List<String> NOUNS = List.of("box key lamp coin bag table chest book cup rope ball door".split(" "));
    private static final List<String> ADJECTIVES = List.of("red blue old new big small gold iron".split(" "));
    private static final Set<String> WORDS = new HashSet<>();
    private static final String PHRASE;
    private static final Pattern ANSWER;
    private static final Map<Pattern, Integer> SENTENCES = new HashMap<>();
    private static final Pattern THING_ITEM =
        Pattern.compile("t([a-l])([a-h-])(r[0-9]|[0-9][0-9])([1-9])(c|s|)(o?)(f?)(l?)(k[0-9][0-9])?");
    private static final Pattern WAY_ITEM = Pattern.compile("d([0-9])([0-9])([nsew])([0-9][0-9])?");

    static {
        WORDS.addAll(NOUNS);
        WORDS.addAll(ADJECTIVES);
        WORDS.addAll(List.of(("take drop put open close lock unlock light douse go look wait "
            + "in on from with the it all n s e w").split(" ")));
        String noun = "(?:" + String.join("|", NOUNS) + ")";
        String adjective = "(?:" + String.join("|", ADJECTIVES) + ")";
        PHRASE = "(it|(?:the )?(?:" + adjective + " )?" + noun + ")";
        ANSWER = Pattern.compile("(?:the )?(" + adjective + "|" + noun + "|" + adjective + " " + noun + ")");
        String[] forms = {"take P", "drop P", "put P in P", "put P on P", "open P", "close P",
            "lock P with P", "unlock P with P", "light P", "douse P", "look in P", "take P from P"};
        for (int act = 0; act < forms.length; act++) {
            SENTENCES.put(Pattern.compile(forms[act].replace("P", PHRASE)), act);
        }
    }

    private record Thing(int noun, int adjective, String place, int weight, String traits, int key) {
        boolean is(char trait) {
            return traits.indexOf(trait) >= 0;
        }
    }

    private record Way(int to, int door) {
    }

    private static final class Plan {
        final List<Boolean> light = new ArrayList<>();
        final List<Thing> things = new ArrayList<>();
        final Map<String, Way> ways = new HashMap<>();
        final Set<Integer> doors = new HashSet<>();
    }

    /** A place is "r3", "t12" or "you". */
    private static final class Moment {
        final List<String> place = new ArrayList<>();
        final List<Integer> oil = new ArrayList<>();
        final Set<Integer> open = new HashSet<>(), locked = new HashSet<>(), on = new HashSet<>();
        int you = 0, turns = 0, it = NONE, told = 0;

        Moment copy() {
            Moment other = new Moment();
            other.place.addAll(place);
            other.oil.addAll(oil);
            other.open.addAll(open);
            other.locked.addAll(locked);
            other.on.addAll(on);
            other.you = you;
            other.turns = turns;
            other.it = it;
            other.told = told;
            return other;
        }
    }

    private final StringBuilder text = new StringBuilder();
    private Plan plan;
    private Moment now;
    private final Deque<Moment> past = new ArrayDeque<>();
    private int asked = 0, act, phrases;
    private Set<Integer> fitsP, fitsQ;

    Reference() {
        text.append(FIRST_HOUSE);
        lay();
        text.setLength(0);
    }

    int write(int letter) {
        if (letter < 32 || letter > 126) {
            return BAD;
        }
        if (text.length() == 240) {
            return FULL;
        }
        return text.append((char) letter).length();
    }

    int wipe() {
        int length = text.length();
        text.setLength(0);
        return length;
    }

    int fault() {
        return read(new Plan());
    }

    int lay() {
        Plan told = new Plan();
        if (read(told) != NONE || told.light.isEmpty()) {
            return NO;
        }
        plan = told;
        now = new Moment();
        for (int t = 0; t < plan.things.size(); t++) {
            now.place.add(plan.things.get(t).place);
            now.oil.add(20);
            if (plan.things.get(t).key != NONE) {
                now.locked.add(t);
            }
        }
        past.clear();
        asked = 0;
        return plan.light.size();
    }

    private int read(Plan told) {
        int at = 0;
        while (at < text.length()) {
            int end = text.indexOf(";", at);
            if (end < 0 || !accept(told, text.substring(at, end))) {
                return at;
            }
            at = end + 1;
        }
        return NONE;
    }

    private static boolean accept(Plan told, String item) {
        if (item.equals("r0") || item.equals("r1")) {
            told.light.add(item.equals("r1"));
            return told.light.size() <= 6;
        }
        Matcher m = THING_ITEM.matcher(item);
        if (m.matches()) {
            return acceptThing(told, m);
        }
        m = WAY_ITEM.matcher(item);
        return m.matches() && acceptWay(told, m);
    }

    private static boolean acceptThing(Plan told, Matcher m) {
        int count = told.things.size();
        String place = m.group(3);
        if (place.startsWith("r")) {
            if (place.charAt(1) - '0' >= told.light.size()) {
                return false;
            }
        } else {
            int holder = Integer.parseInt(place);
            if (holder >= count || !told.things.get(holder).is('c') && !told.things.get(holder).is('s')) {
                return false;
            }
            place = "t" + holder;
        }
        int key = m.group(9) == null ? NONE : Integer.parseInt(m.group(9).substring(1));
        if (key != NONE && (key >= count || m.group(6).isEmpty())) {
            return false;
        }
        told.things.add(new Thing(m.group(1).charAt(0) - 'a', m.group(2).equals("-") ? NONE : m.group(2).charAt(0) - 'a',
            place, Integer.parseInt(m.group(4)), m.group(5) + m.group(6) + m.group(7) + m.group(8), key));
        return told.things.size() <= 16;
    }

    private static boolean acceptWay(Plan told, Matcher m) {
        int a = Integer.parseInt(m.group(1));
        int b = Integer.parseInt(m.group(2));
        String by = m.group(3);
        String back = Map.of("n", "s", "s", "n", "e", "w", "w", "e").get(by);
        if (a == b || a >= told.light.size() || b >= told.light.size()
            || told.ways.containsKey(a + by) || told.ways.containsKey(b + back)) {
            return false;
        }
        int door = NONE;
        if (m.group(4) != null) {
            door = Integer.parseInt(m.group(4));
            if (door >= told.things.size()) {
                return false;
            }
            Thing thing = told.things.get(door);
            if (!thing.place.equals("r" + a) || !thing.is('o') || !thing.is('f') || thing.is('c') || thing.is('s')
                || !told.doors.add(door)) {
                return false;
            }
        }
        told.ways.put(a + by, new Way(b, door));
        told.ways.put(b + back, new Way(a, door));
        return true;
    }

    // ---- looks

    private Thing of(int t) {
        return plan.things.get(t);
    }

    private boolean isClosed(int t) {
        return of(t).is('o') && !now.open.contains(t);
    }

    private boolean withYou(int t) {
        return now.place.get(t).equals("you");
    }

    /** Where one comes to from t, or null if what bars the way is met. */
    private String end(int t, IntPredicate bars) {
        String place = now.place.get(t);
        if (!place.startsWith("t")) {
            return place;
        }
        int holder = Integer.parseInt(place.substring(1));
        return bars.test(holder) ? null : end(holder, bars);
    }

    private String end(int t) {
        return end(t, holder -> false);
    }

    private boolean isOut(int t, int room) {
        String end = end(t, holder -> of(holder).is('c') && isClosed(holder));
        return end != null && (end.equals("r" + room) || end.equals("you") && now.you == room);
    }

    private boolean isLit(int room) {
        return plan.light.get(room) || now.on.stream().anyMatch(t -> isOut(t, room));
    }

    private Set<Integer> all(IntPredicate are) {
        Set<Integer> found = new TreeSet<>();
        for (int t = 0; t < plan.things.size(); t++) {
            if (are.test(t)) {
                found.add(t);
            }
        }
        return found;
    }

    private Set<Integer> seen() {
        if (!isLit(now.you)) {
            return all(this::withYou);
        }
        Set<Integer> seen = all(t -> isOut(t, now.you));
        for (String by : "n s e w".split(" ")) {
            Way way = plan.ways.get(now.you + by);
            if (way != null && way.door != NONE) {
                seen.add(way.door);
            }
        }
        return seen;
    }

    private int total(int t) {
        return of(t).weight + inside(t);
    }

    private int inside(int t) {
        int sum = 0;
        for (int other : all(u -> now.place.get(u).equals("t" + t))) {
            sum += total(other);
        }
        return sum;
    }

    private int load() {
        int sum = 0;
        for (int t : all(this::withYou)) {
            sum += total(t);
        }
        return sum;
    }

    // ---- acts

    int would(int a, int x, int y) {
        boolean two = a == 2 || a == 3 || a == 6 || a == 7 || a == 11;
        int count = plan.things.size();
        if (a < 0 || a > 11 || x < 0 || x >= count || two && (y < 0 || y >= count)) {
            return BAD;
        }
        Thing thing = of(x);
        switch (a) {
            case 0:
                if (thing.is('f')) return 8;
                if (withYou(x)) return 9;
                return load() + (end(x).equals("you") ? 0 : total(x)) > 12 ? 10 : 0;
            case 1: return withYou(x) ? 0 : 13;
            case 2: case 3:
                if (x == y || end(y, holder -> holder == x) == null) return 14;
                if (!withYou(x)) return 13;
                if (!of(y).is(a == 2 ? 'c' : 's')) return 8;
                if (a == 2 && isClosed(y)) return 6;
                return total(x) + inside(y) > 12 ? 10 : 0;
            case 4:
                if (!thing.is('o')) return 8;
                if (!isClosed(x)) return 9;
                return now.locked.contains(x) ? 7 : 0;
            case 5:
                if (!thing.is('o')) return 8;
                return isClosed(x) ? 9 : 0;
            case 6: case 7:
                if (thing.key == NONE) return 8;
                if (a == 6 && !isClosed(x)) return 16;
                if (now.locked.contains(x) != (a == 7)) return 9;
                if (!withYou(y)) return 13;
                return thing.key == y ? 0 : 11;
            case 8:
                if (!thing.is('l')) return 8;
                if (now.on.contains(x)) return 9;
                if (!withYou(x)) return 13;
                return now.oil.get(x) > 0 ? 0 : 15;
            case 9:
                if (!thing.is('l')) return 8;
                return now.on.contains(x) ? 0 : 9;
            case 10:
                if (!thing.is('c')) return 8;
                return isClosed(x) ? 6 : 0;
            default:
                if (!now.place.get(x).equals("t" + y)) return 18;
                return would(0, x, y);
        }
    }

    private void perform(int a, int x, int y) {
        remember();
        switch (a) {
            case 0: case 11: now.place.set(x, "you"); break;
            case 1: now.place.set(x, "r" + now.you); break;
            case 2: case 3: now.place.set(x, "t" + y); break;
            case 4: now.open.add(x); break;
            case 5: now.open.remove(x); break;
            case 6: now.locked.add(x); break;
            case 7: now.locked.remove(x); break;
            case 8: now.on.add(x); break;
            case 9: now.on.remove(x); break;
            default: now.told = all(t -> now.place.get(t).equals("t" + x)).size();
        }
        now.it = x;
        endTurn();
    }

    private void remember() {
        past.push(now.copy());
        if (past.size() > 8) {
            past.removeLast();
        }
    }

    private void endTurn() {
        now.turns++;
        for (int t : new ArrayList<>(now.on)) {
            now.oil.set(t, now.oil.get(t) - 1);
            if (now.oil.get(t) == 0) {
                now.on.remove(t);
            }
        }
    }

    // ---- said

    int say() {
        String sentence = text.toString();
        for (String word : sentence.split(" ", -1)) {
            if (!WORDS.contains(word)) {
                return 1;
            }
        }
        Matcher m = ANSWER.matcher(sentence);
        if (m.matches()) {
            return asked == 0 ? 2 : answer(m.group(1));
        }
        for (Map.Entry<Pattern, Integer> form : SENTENCES.entrySet()) {
            m = form.getKey().matcher(sentence);
            if (m.matches()) {
                asked = 0;
                act = form.getValue();
                phrases = m.groupCount();
                fitsP = fits(m.group(1));
                fitsQ = phrases == 2 ? fits(m.group(2)) : Set.of(-1);
                return fitsP.isEmpty() || fitsQ.isEmpty() ? 3 : settle();
            }
        }
        return plain(sentence);
    }

    private Set<Integer> fits(String phrase) {
        Set<Integer> found = seen();
        if (phrase.equals("it")) {
            found.retainAll(Set.of(now.it));
        } else {
            found.removeIf(t -> !isNamed(t, phrase));
        }
        return found;
    }

    private boolean isNamed(int t, String words) {
        for (String word : words.split(" ")) {
            boolean meant = word.equals("the") || NOUNS.indexOf(word) == of(t).noun
                || ADJECTIVES.contains(word) && ADJECTIVES.indexOf(word) == of(t).adjective;
            if (!meant) {
                return false;
            }
        }
        return true;
    }

    private int answer(String words) {
        Set<Integer> meant = new TreeSet<>(asked == 1 ? fitsP : fitsQ);
        meant.removeIf(t -> !isNamed(t, words));
        if (meant.isEmpty()) {
            return 3;
        }
        if (asked == 1) {
            fitsP = meant;
        } else {
            fitsQ = meant;
        }
        return settle();
    }

    private int settle() {
        List<int[]> pairs = new ArrayList<>();
        Set<Integer> xs = new TreeSet<>(), ys = new TreeSet<>();
        for (int x : fitsP) {
            for (int y : fitsQ) {
                if (would(act, x, y) == 0) {
                    pairs.add(new int[] {x, y});
                    xs.add(x);
                    ys.add(y);
                }
            }
        }
        asked = 0;
        if (pairs.isEmpty()) {
            return would(act, fitsP.iterator().next(), fitsQ.iterator().next());
        }
        if (xs.size() > 1) {
            fitsP = xs;
            asked = 1;
            return 4;
        }
        if (ys.size() > 1) {
            fitsQ = ys;
            asked = 2;
            return 4;
        }
        perform(act, pairs.get(0)[0], pairs.get(0)[1]);
        return 0;
    }

    private int plain(String sentence) {
        String side = sentence.startsWith("go ") ? sentence.substring(3) : sentence;
        boolean isSide = List.of("n", "s", "e", "w").contains(side);
        if (!isSide && !List.of("take all", "drop all", "look", "wait").contains(sentence)) {
            return 2;
        }
        asked = 0;
        if (isSide) {
            return go(side);
        }
        switch (sentence) {
            case "take all": return takeAll();
            case "drop all": return dropAll();
            case "look":
                if (!isLit(now.you)) {
                    return 5;
                }
                remember();
                now.told = seen().size();
                break;
            default:
                remember();
        }
        endTurn();
        return 0;
    }

    private int go(String side) {
        Way way = plan.ways.get(now.you + side);
        if (way == null) {
            return 12;
        }
        if (way.door != NONE && isClosed(way.door)) {
            return 6;
        }
        remember();
        now.you = way.to;
        endTurn();
        return 0;
    }

    private int takeAll() {
        Moment before = now.copy();
        boolean any = false;
        for (int t : seen()) {
            if (!of(t).is('f') && !end(t).equals("you") && would(0, t, 0) == 0) {
                now.place.set(t, "you");
                any = true;
            }
        }
        return endOfAll(any, before);
    }

    private int dropAll() {
        Moment before = now.copy();
        Set<Integer> held = all(this::withYou);
        held.forEach(t -> now.place.set(t, "r" + now.you));
        return endOfAll(!held.isEmpty(), before);
    }

    private int endOfAll(boolean any, Moment before) {
        if (!any) {
            return 17;
        }
        Moment after = now;
        now = before;
        remember();
        now = after;
        endTurn();
        return 0;
    }

    int undo() {
        if (past.isEmpty()) {
            return NO;
        }
        now = past.pop();
        asked = 0;
        return past.size();
    }

    boolean isAsked() {
        return asked != 0;
    }

    int doubt() {
        if (asked == 0) {
            return NONE;
        }
        int bits = 0;
        for (int t : asked == 1 ? fitsP : fitsQ) {
            bits |= 1 << t;
        }
        return bits;
    }

    // ---- looked at

    int thing(int t, int what) {
        if (t < 0 || t >= plan.things.size() || what < 0 || what > 13) {
            return BAD;
        }
        Thing thing = of(t);
        String place = now.place.get(t);
        int[] answers = {
            thing.noun, thing.adjective,
            place.equals("you") ? 2 : place.startsWith("r") ? 0 : 1,
            place.equals("you") ? NONE : Integer.parseInt(place.substring(1)),
            thing.weight, total(t),
            thing.is('o') ? one(now.open.contains(t)) : NONE,
            thing.key != NONE ? one(now.locked.contains(t)) : NONE,
            thing.is('l') ? one(now.on.contains(t)) : NONE,
            thing.is('l') ? now.oil.get(t) : NONE,
            one(seen().contains(t)), thing.key,
            thing.is('c') ? 1 : thing.is('s') ? 2 : 0,
            one(thing.is('f')),
        };
        return answers[what];
    }

    private static int one(boolean is) {
        return is ? 1 : 0;
    }

    int room(int r, int what) {
        if (r < 0 || r >= plan.light.size()) {
            return BAD;
        }
        switch (what) {
            case 0: return one(plan.light.get(r));
            case 1: return one(isLit(r));
            case 2: return all(t -> isOut(t, r)).size();
            case 3: return all(t -> end(t).equals("r" + r)).size();
            default: return BAD;
        }
    }

    int way(int r, int by) {
        if (r < 0 || r >= plan.light.size() || by < 0 || by > 3) {
            return BAD;
        }
        Way way = plan.ways.get(r + "nsew".substring(by, by + 1));
        return way == null ? NONE : way.to;
    }

    int door(int r, int by) {
        if (way(r, by) < 0) {
            return way(r, by) == BAD ? BAD : NO;
        }
        return plan.ways.get(r + "nsew".substring(by, by + 1)).door;
    }

    int steps(int a, int b, int which) {
        int rooms = plan.light.size();
        if (a < 0 || a >= rooms || b < 0 || b >= rooms || which < 0 || which > 1) {
            return BAD;
        }
        int far = 99;
        int[] best = new int[rooms];
        Arrays.fill(best, far);
        best[a] = 0;
        for (int round = 0; round < rooms; round++) {
            for (Map.Entry<String, Way> entry : plan.ways.entrySet()) {
                Way way = entry.getValue();
                int from = entry.getKey().charAt(0) - '0';
                if (which == 1 || way.door == NONE || !isClosed(way.door)) {
                    best[way.to] = Math.min(best[way.to], best[from] + 1);
                }
            }
        }
        return best[b] >= far ? NONE : best[b];
    }

    int count(int what) {
        switch (what) {
            case 0: return plan.light.size();
            case 1: return plan.things.size();
            case 2: return now.you;
            case 3: return now.turns;
            case 4: return now.told;
            case 5: return now.it;
            case 6: return past.size();
            case 7: return text.length();
            case 8: return load();
            case 9: return seen().size();
            case 10: return asked == 0 ? 0 : phrases;
            case 11: return asked == 0 ? NONE : asked;
            default: return BAD;
        }
    }
}
