import java.util.Random;

/** Random runs of calls, each answered by TypedRooms and by the Reference; the same runs each time. */
public final class RandomRunsTest {
    private static final int RUNS = 6000;
    /** What looksAfterStep() asks at most. */
    private static final int LOOKS = 6;
    private static final String[] NOUNS = "box key lamp coin bag table chest book cup rope ball door".split(" ");
    private static final String[] ADJECTIVES = "red blue old new big small gold iron".split(" ");
    private static final String[] WORDS = ("box key lamp coin bag table chest book cup rope ball door "
        + "red blue old new big small gold iron take drop put open close lock unlock light douse go look wait "
        + "in on from with the it all n s e w boxes T").split(" ");
    private static final String[] FORMS = {"take P", "drop P", "put P in P", "put P on P", "open P", "close P",
        "lock P with P", "unlock P with P", "light P", "douse P", "look in P", "take P from P", "take P", "open P",
        "unlock P with P", "put P in P", "light P", "take all", "drop all", "look", "wait", "go D", "D", "D",
        "unlock X with K", "lock X with K", "take K", "open X"};
    private static final String[] LAMP_FORMS = {"wait", "wait", "wait", "light L", "take L", "look", "D"};
    private static final String[] LOCK_FORMS = {"unlock X with K", "lock X with K", "take K", "open X", "close X", "lock X with P", "D"};

    private final Check check;
    private final Random random;
    private Rooms rooms;
    private Reference reference;
    private final StringBuilder trail = new StringBuilder();
    private int nouns;
    /** What most sentences of the run are; some need many, one behind the other, to come to all answers. */
    private String[] forms;
    private boolean burns;

    private RandomRunsTest(Check check, long seed) {
        this.check = check;
        this.random = new Random(seed);
    }

    public static void main(String[] args) {
        int[] answered = new int[19];
        Check.all(check -> {
            for (int run = 0; run < RUNS && !check.isWrong(); run++) {
                new RandomRunsTest(check, run).play(answered);
            }
            System.out.println("answers of say: " + java.util.Arrays.toString(answered));
            for (int said = 0; said < answered.length; said++) {
                check.due("answer " + said + " met at least once", answered[said] > 0 ? 1 : 0, 1);
            }
        });
    }

    private void play(int[] answered) {
        rooms = new Rooms();
        reference = new Reference();
        nouns = 1 + random.nextInt(4);
        int kind = random.nextInt(4);
        burns = kind == 0;
        forms = burns ? LAMP_FORMS : kind == 1 ? LOCK_FORMS : FORMS;
        if (random.nextInt(burns ? 2 : 8) != 0) {
            tell(house());
            lay();
        }
        int steps = random.nextInt(80);
        for (int step = 0; step < steps && !check.isWrong() && playStep(answered); step++) {
            lookAfterStep();
        }
        while (rooms.callsLeft() > 0 && !check.isWrong()) {
            if (random.nextInt(20) == 0) {
                due("undo()", rooms.undo(), reference.undo());
            } else {
                lookSomewhere();
            }
        }
    }

    /** One sentence, house or undo; false: there are too few calls left for it. */
    private boolean playStep(int[] answered) {
        int kind = random.nextInt(40);
        boolean isHouse = kind == 0;
        boolean isAgain = kind > 36 || burns && kind > 15 && !reference.isAsked();
        String text = isHouse ? house() : isAgain ? "" : sentence();
        if (rooms.callsLeft() < text.length() + 3 + LOOKS) {
            return false;
        }
        if (isHouse) {
            tell(text);
            lay();
        } else if (kind < 4) {
            due("undo()", rooms.undo(), reference.undo());
        } else {
            if (!isAgain) {
                tell(text);
            }
            due("say()", rooms.say(), reference.say(), answered);
        }
        return true;
    }

    private void lay() {
        due("fault()", rooms.fault(), reference.fault());
        due("lay()", rooms.lay(), reference.lay());
    }

    private void due(String call, int got, int want) {
        trail.append(call).append('=').append(want).append(' ');
        look(call, got, want);
    }

    private void due(String call, int got, int want, int[] answered) {
        answered[want]++;
        due(call, got, want);
    }

    private void look(String call, int got, int want) {
        if (got != want && !check.isWrong()) {
            System.out.println(trail);
        }
        check.due(call, got, want);
    }

    private void tell(String text) {
        rooms.wipe();
        reference.wipe();
        for (char letter : text.toCharArray()) {
            check.due("write", rooms.write(letter), reference.write(letter));
        }
        trail.append("\n\"").append(text).append("\" ");
    }

    // ---- what is told

    private String house() {
        StringBuilder text = new StringBuilder();
        int count = 1 + random.nextInt(4);
        for (int r = 0; r < count; r++) {
            text.append(random.nextInt(4) == 0 ? "r0;" : "r1;");
        }
        int things = 2 + random.nextInt(random.nextInt(3) == 0 ? 15 : 9);
        String traits = "";
        for (int t = 0; t < things; t++) {
            String own = traits();
            text.append('t').append((char) ('a' + nextNoun())).append("-abcdefgh".charAt(random.nextInt(5)));
            text.append(place(traits, count)).append(1 + random.nextInt(random.nextInt(3) == 0 ? 9 : 3)).append(own);
            if (own.contains("o") && t > 0 && random.nextInt(2) == 0) {
                text.append('k').append(twoFigures(random.nextInt(t)));
            }
            text.append(';');
            traits = traits + (own.startsWith("c") || own.startsWith("s") ? 'h' : '.');
        }
        for (int r = 1; r < count; r++) {
            text.append(way(text, random.nextInt(r), r));
        }
        if (random.nextInt(10) == 0) {
            text.setCharAt(random.nextInt(text.length()), "r t;d0123nsewcofk".charAt(random.nextInt(17)));
        }
        return text.toString();
    }

    private int nextNoun() {
        return random.nextInt(4) == 0 ? random.nextInt(12) : random.nextInt(nouns);
    }

    private String traits() {
        String own = switch (random.nextInt(8)) {
            case 0, 1, 2 -> "c";
            case 3 -> "s";
            default -> "";
        };
        own += random.nextInt(3) == 0 ? "o" : "";
        own += random.nextInt(6) == 0 ? "f" : "";
        return own + (random.nextInt(5) == 0 ? "l" : "");
    }

    private String place(String traits, int count) {
        int holder = traits.isEmpty() ? -1 : random.nextInt(traits.length());
        if (holder >= 0 && traits.charAt(holder) == 'h') {
            return twoFigures(holder);
        }
        return "r" + (random.nextInt(3) == 0 ? random.nextInt(count) : 0);
    }

    /** A way, sometimes with a door put ahead of it. */
    private String way(StringBuilder text, int a, int b) {
        String way = "d" + a + b + "nsew".charAt(random.nextInt(4));
        long things = text.chars().filter(letter -> letter == 't').count();
        if (random.nextInt(2) == 0 || things >= 16) {
            return way + ";";
        }
        String key = random.nextInt(3) == 0 ? "k" + twoFigures(random.nextInt((int) things)) : "";
        return "tl" + "-ah".charAt(random.nextInt(3)) + "r" + a + "9of" + key + ";" + way + twoFigures((int) things) + ";";
    }

    private static String twoFigures(int number) {
        return (number < 10 ? "0" : "") + number;
    }

    private String sentence() {
        int kind = random.nextInt(20);
        if (kind == 0) {
            StringBuilder text = new StringBuilder();
            int words = random.nextInt(5);
            for (int i = 0; i < words; i++) {
                text.append(i == 0 && random.nextInt(9) != 0 ? "" : " ").append(WORDS[random.nextInt(WORDS.length)]);
            }
            return text.toString();
        }
        if (kind < 3 || reference.isAsked() && kind < 14) {
            return answer();
        }
        String[] some = random.nextInt(5) != 0 ? forms : FORMS;
        String form = some[random.nextInt(some.length)];
        int locked = oneWith(11, 0);
        form = form.replace("X", locked < 0 ? "P" : named(locked, true));
        form = form.replace("K", locked < 0 ? "P" : named(reference.thing(locked, 11), true));
        int lamp = oneWith(8, 0);
        form = form.replace("L", lamp < 0 ? "P" : named(lamp, true));
        while (form.contains("P")) {
            form = form.replaceFirst("P", phrase());
        }
        return form.replaceFirst("D", "nsew".substring(random.nextInt(4)).substring(0, 1));
    }

    private String phrase() {
        if (random.nextInt(6) == 0) {
            return "it";
        }
        int t = random.nextInt(Math.max(1, reference.count(1)));
        // Mostly a word for something that is there, so that much can be done.
        return (random.nextInt(5) == 0 ? "the " : "") + named(t, random.nextInt(3) == 0);
    }

    private String named(int t, boolean whole) {
        String noun = reference.thing(t, 0) >= 0 ? NOUNS[reference.thing(t, 0)] : "box";
        return (whole && reference.thing(t, 1) >= 0 ? ADJECTIVES[reference.thing(t, 1)] + " " : "") + noun;
    }

    /** A THING that is seen and answers so many or more; -1 if there is none. */
    private int oneWith(int what, int least) {
        int things = reference.count(1);
        int first = random.nextInt(16);
        for (int i = 0; i < things; i++) {
            int t = (first + i) % things;
            if (reference.thing(t, 10) == 1 && reference.thing(t, what) >= least) {
                return t;
            }
        }
        return -1;
    }

    private String answer() {
        String the = random.nextInt(5) == 0 ? "the " : "";
        int t = random.nextInt(16);
        int bits = reference.doubt();
        if (bits > 0 && random.nextInt(4) != 0) {
            while ((bits >> t & 1) == 0) {
                t = (t + 1) % 16;
            }
        }
        String noun = reference.thing(t, 0) >= 0 ? NOUNS[reference.thing(t, 0)] : "cup";
        String adjective = reference.thing(t, 1) >= 0 ? ADJECTIVES[reference.thing(t, 1)] : "red";
        return the + switch (random.nextInt(4)) {
            case 0 -> noun;
            case 1, 2 -> adjective;
            default -> adjective + " " + noun;
        };
    }

    // ---- what is compared

    private void lookAfterStep() {
        look("doubt()", rooms.doubt(), reference.doubt());
        for (int i = 1; i < LOOKS; i++) {
            lookSomewhere();
        }
    }

    private void lookSomewhere() {
        int r = random.nextInt(8) - 1;
        int what = random.nextInt(6) - 1;
        switch (random.nextInt(10)) {
            case 0 -> look("room(" + r + "," + what + ")", rooms.room(r, what), reference.room(r, what));
            case 1 -> look("way(" + r + "," + what + ")", rooms.way(r, what), reference.way(r, what));
            case 2 -> look("door(" + r + "," + what + ")", rooms.door(r, what), reference.door(r, what));
            case 3 -> lookSteps(r, random.nextInt(8) - 1, random.nextInt(10) == 0 ? 2 : random.nextInt(2));
            case 4 -> lookWould(random.nextInt(14) - 1, random.nextInt(12) - 1, random.nextInt(12) - 1);
            case 5, 6 -> lookCount(random.nextInt(14) - 1);
            default -> lookThing(random.nextInt(18) - 1, random.nextInt(16) - 1);
        }
    }

    private void lookSteps(int a, int b, int which) {
        look("steps(" + a + "," + b + "," + which + ")", rooms.steps(a, b, which), reference.steps(a, b, which));
    }

    private void lookWould(int act, int x, int y) {
        look("would(" + act + "," + x + "," + y + ")", rooms.would(act, x, y), reference.would(act, x, y));
    }

    private void lookCount(int what) {
        look("count(" + what + ")", rooms.count(what), reference.count(what));
    }

    private void lookThing(int t, int what) {
        look("thing(" + t + "," + what + ")", rooms.thing(t, what), reference.thing(t, what));
    }
}
