/** Each sentence on WORDS, PHRASES, SENTENCES, what FITS, DOUBT and ANSWER, and of promises 6 and 8, by itself. */
public final class SaySentencesTest {
    private static final int NONE = TypedRooms.NONE;
    private static final String[] NOUNS = "box key lamp coin bag table chest book cup rope ball door".split(" ");
    private static final String[] ADJECTIVES = "red blue old new big small gold iron".split(" ");
    /** Two keys and two boxes: red and blue of each. */
    private static final String PAIRS = "r1;tbar01;tbbr01;taar01c;tabr01c;";

    public static void main(String[] args) {
        Check.all(check -> {
            words(check);
            sentences(check);
            fits(check);
            doneOrNot(check);
            doubts(check);
            answers(check);
            ends(check);
        });
    }

    /** Says each to a new object; none is to be done. */
    private static void say(Check check, int want, String... texts) {
        for (String text : texts) {
            Rooms rooms = Check.typed(text);
            check.due("say \"" + text + "\"", rooms.say(), want);
            check.due("turns after \"" + text + "\"", rooms.count(3), 0);
        }
    }

    private static void words(Check check) {
        check.holds("WORDS of small letters, one blank between two.", SaySentencesTest::blanks);
        check.holds("1 a WORD is none", SaySentencesTest::noWord);
        check.holds("(THE TEXT is empty", c -> say(c, 1, ""));
        check.holds("the blanks are not so: likewise)", SaySentencesTest::blanks);
        check.holds("WORDS are NOUNS, ADJECTIVES, the VERBS take drop put open close lock unlock light douse go look wait, "
            + "and in on from with the it all n s e w.", SaySentencesTest::allWords);
        check.holds("THE TEXT is SAID: what comes of it (THE TEXT stays).", SaySentencesTest::textStays);
    }

    private static void blanks(Check check) {
        say(check, 1, " ", "  ", " wait", "wait ", "take  lamp", " take lamp", "take lamp ", "take lamp  ", "take   lamp", "n ", " n",
            "n ".repeat(120), " " + "n ".repeat(119) + "n", "n  n", "take lamp from  table");
        say(check, 1, "take\tlamp".replace('\t', '_'), "take-lamp", "take,lamp", "takelamp");
    }

    private static void noWord(Check check) {
        say(check, 1, "xyz", "take xyz", "xyz take", "take the xyz lamp", "x", "a", "north", "i");
        // Part of a WORD, more than a WORD, two in one.
        say(check, 1, "wai", "waitt", "ait", "tak lamp", "take lam", "lampp", "nn", "doo", "inn", "t", "th", "boxkey", "waitwait");
        say(check, 1, "Wait", "WAIT", "waiT", "take Lamp", "N", "wait.", "wait!", "wait;", "0", "take 1", "wait~", "`", "{");
        // Also where it is no SENTENCE otherwise, and far behind.
        say(check, 1, "the the xyz", "take take take xyz", "n ".repeat(119) + "x", "n ".repeat(119) + "box");
    }

    private static void allWords(Check check) {
        String verbs = "take drop put open close lock unlock light douse go";
        for (String word : (String.join(" ", NOUNS) + " " + String.join(" ", ADJECTIVES) + " " + verbs
            + " in on from with the it all").split(" ")) {
            say(check, 2, word, "take " + word + " take", word + " " + word);
        }
        for (String word : "look wait n s e w".split(" ")) {
            say(check, 2, word + " take", "take " + word);
        }
        say(check, 2, "n ".repeat(119) + "n", "n ".repeat(119) + "in", "take take take");
        say(check, 1, "n ".repeat(119) + "in".replace('i', 'x'));
    }

    private static void textStays(Check check) {
        Rooms rooms = Check.typed("wait");
        for (int times = 1; times <= 3; times++) {
            check.due("say()", rooms.say(), 0);
            check.due("letters", rooms.count(7), 4);
            check.due("turns", rooms.count(3), times);
        }
        for (String text : new String[] {"xyz", "take", "take rope", "open box", "e", ""}) {
            Rooms other = Check.typed(text);
            int said = other.say();
            check.due("letters", other.count(7), text.length());
            check.due("say() again", other.say(), said);
            check.due("wipe()", other.wipe(), text.length());
        }
        // What is typed next comes behind it.
        Rooms more = Check.typed("take");
        check.due("say()", more.say(), 2);
        for (char letter : " lamp".toCharArray()) {
            more.write(letter);
        }
        check.due("say()", more.say(), 0);
    }

    private static void sentences(Check check) {
        check.holds("A PHRASE: it; or the (or not), an ADJECTIVE (or not), a NOUN.", SaySentencesTest::phrases);
        check.holds("take P, drop P, take P from Q, put P in Q, put P on Q, open P, close P, lock P with Q, unlock P with Q, "
            + "light P, douse P, look in P, take all, drop all, look, wait, go and one of n s e w, or that alone",
            SaySentencesTest::allSentences);
        check.holds("2 it is no SENTENCE", SaySentencesTest::noSentence);
        check.holds("if there is a DOUBT, also the (or not) and an ADJECTIVE, a NOUN, or both (an ANSWER).", SaySentencesTest::wordsOfAnswers);
    }

    private static void phrases(Check check) {
        for (String phrase : new String[] {"lamp", "the lamp", "old lamp", "the old lamp"}) {
            Rooms rooms = new Rooms();
            check.done(rooms, "take " + phrase, "put " + phrase + " on table", "take " + phrase + " from " + "the table",
                "put it on " + "table", "take it");
            check.due("held", rooms.thing(5, 2), 2);
        }
        for (String wrong : new String[] {"the", "old", "the old", "the the lamp", "old old lamp", "old the lamp", "lamp old",
            "lamp lamp", "old new lamp", "take lamp", "go lamp", "the wait lamp", "n lamp", "the it", "old it", "it lamp", "it it", "the old it", "lamp it", "the all", "n"}) {
            say(check, 2, "drop " + wrong, "open " + wrong, "put " + wrong + " in box", "put box in " + wrong,
                "take box from " + wrong, "take " + wrong + " from box", "lock box with " + wrong, "look in " + wrong);
        }
    }

    private static void allSentences(Check check) {
        Rooms rooms = Check.laid("r1;r1;r1;r1;tb-r01;ta-r01cok00;tf-r01s;tc-r01l;d01n;d12e;");
        check.done(rooms, "take key", "drop key", "take key", "unlock box with key", "lock box with key", "unlock box with key", "open box",
            "put key in box", "take key from box", "put key on table", "take key from table", "close box", "open box", "look in box",
            "take lamp", "light lamp", "douse lamp", "drop all", "take all", "look", "wait", "go n", "s", "n", "go e", "w", "go s");
        check.due("turns", rooms.count(3), 27);
        Rooms sides = Check.laid("r1;r1;d01n;d01s;d01e;d01w;");
        check.done(sides, "n", "s", "s", "n", "e", "w", "w", "e", "go n", "go s", "go s", "go n", "go e", "go w", "go w", "go e");
        check.due("your room", sides.count(2), 0);
    }

    private static void noSentence(Check check) {
        say(check, 2, "take", "drop", "put", "open", "close", "lock", "unlock", "light", "douse", "go", "take from table");
        say(check, 2, "put lamp", "put lamp in", "put lamp on", "put lamp from table", "put lamp with table", "put lamp table",
            "put in box", "put on table", "put lamp in on table");
        say(check, 2, "take lamp from", "take lamp in box", "take lamp on table", "take lamp with box", "take lamp table");
        say(check, 2, "lock box", "lock box with", "lock box in key", "lock box key", "lock with key", "unlock box", "unlock box with",
            "unlock box on key");
        say(check, 2, "drop lamp from table", "drop lamp in box", "open box with key", "close box with key", "light lamp with lamp",
            "douse lamp in box", "look in", "look on table", "look box", "look in box in box", "look from box");
        // More behind what is a SENTENCE, or ahead of it.
        say(check, 2, "take lamp lamp", "take lamp take", "take lamp from table from table", "put lamp on table on table",
            "unlock box with key key", "look look", "look n", "look the", "wait wait", "wait n", "n n", "n wait", "go n n", "go n wait",
            "the wait", "the n", "it", "it n", "take all all", "take all from box", "take all box", "drop all lamp", "drop all all",
            "open all", "put all in box", "look in all", "light all", "lock all with key", "go", "go go", "go go n", "go in", "go all",
            "go the n", "go wait", "all", "take the all", "from", "with", "in box", "on table");
        // An ANSWER, where there is no DOUBT.
        say(check, 2, "lamp", "old", "old lamp", "the lamp", "the old", "the old lamp");
        say(check, 1, "take lamp from tabl", "put lamp onn table");
    }

    private static void wordsOfAnswers(Check check) {
        for (String answer : new String[] {"red", "the red", "red key", "the red key"}) {
            Rooms rooms = Check.laid(PAIRS);
            check.dueSaid(rooms, answer, 2);
            check.dueSaid(rooms, "take key", 4);
            check.dueSaid(rooms, answer, 0);
            check.due("held", rooms.thing(0, 2), 2);
            // There is no DOUBT any more.
            check.dueSaid(rooms, answer, 2);
        }
        for (String noun : new String[] {"key", "the key"}) {
            Rooms rooms = Check.laid(PAIRS);
            check.dueSaid(rooms, "take key", 4);
            check.dueSaid(rooms, noun, 4);
        }
        for (String wrong : new String[] {"the", "it", "the it", "red it", "key red", "red red", "red blue", "key key", "the the red",
            "red the key", "red key key", "red key red", "all", "the all", "in", "red in", "take", "key n", "red key wait"}) {
            Rooms rooms = Check.laid(PAIRS);
            check.dueSaid(rooms, "take key", 4);
            check.dueSaid(rooms, wrong, 2);
            check.due("doubt()", rooms.doubt(), 3);
        }
        Rooms rooms = Check.laid(PAIRS);
        check.dueSaid(rooms, "take key", 4);
        for (String none : new String[] {"", " red", "red ", "red  key", "redd", "Red", "xyz"}) {
            check.dueSaid(rooms, none, 1);
        }
        check.due("doubt()", rooms.doubt(), 3);
    }

    private static void fits(Check check) {
        check.holds("A PHRASE FITS the THINGS that are SEEN", SaySentencesTest::fitsSeen);
        check.holds("and have its NOUN, and its ADJECTIVE, if it has one", SaySentencesTest::fitsWords);
        check.holds("it: IT, the THING of the first PHRASE that was done with last", SaySentencesTest::it);
        check.holds("(none at first)", SaySentencesTest::itAtFirst);
        check.holds("if that is SEEN", SaySentencesTest::itUnseen);
        check.holds("3, if a PHRASE FITS none (P first)", SaySentencesTest::fitsNone);
    }

    private static void fitsSeen(Check check) {
        // A key in another room, one in a closed box; a door of a way is seen from both sides.
        Rooms rooms = Check.laid("r1;r1;tb-r11;ta-r01co;tb-011;tl-r19of;d10e03;");
        check.dueSaid(rooms, "take key", 3);
        check.done(rooms, "open door", "open box", "take key");
        check.due("the key of the box", rooms.thing(2, 2), 2);
        // In the dark what is held is seen, and no door.
        Rooms dark = Check.laid("r1;r0;tb-r01;ti-r11;tl-r19of;d01n;d10e02;");
        check.done(dark, "take key", "n");
        check.dueSaid(dark, "take cup", 3);
        check.dueSaid(dark, "open door", 3);
        check.done(dark, "drop key");
        check.dueSaid(dark, "take key", 3);
    }

    private static void fitsWords(Check check) {
        Rooms rooms = Check.laid("r1;tbar01;tbbr01;taar01;tb-r01;tiar01;");
        check.dueSaid(rooms, "drop key", 13);
        check.dueSaid(rooms, "take key", 4);
        check.due("of any adjective, and of none", rooms.doubt(), 1 + 2 + 8);
        check.dueSaid(rooms, "take old key", 3);
        check.dueSaid(rooms, "take blue cup", 3);
        check.dueSaid(rooms, "take lamp", 3);
        check.done(rooms, "take the blue key");
        check.due("the blue key", rooms.thing(1, 2), 2);
        check.done(rooms, "take red cup", "take box");
        check.due("the cup", rooms.thing(4, 2), 2);
        check.due("the box", rooms.thing(2, 2), 2);
        check.due("of the red ones nothing else", rooms.thing(0, 2), 0);
    }

    private static void it(Check check) {
        Rooms rooms = Check.laid("r1;r1;tb-r01;ta-r01cok00;tf-r01s;tc-r01l;d01n;");
        int[] due = {0, 1, 1, 0, 0, 0, 3, 3, 3, 3, 1, 1};
        String[] said = {"take key", "unlock box with key", "open box", "put key in box", "take key from box", "put key on table",
            "take lamp", "light lamp", "douse lamp", "drop lamp", "look in box", "close box"};
        for (int i = 0; i < said.length; i++) {
            check.done(rooms, said[i]);
            check.due("it after " + said[i], rooms.count(5), due[i]);
        }
        check.done(rooms, "take key", "lock box with it");
        check.due("it after lock", rooms.count(5), 1);
        // What is not done leaves IT as it is.
        check.dueSaid(rooms, "take key", 9);
        check.dueSaid(rooms, "open lamp", 8);
        check.dueSaid(rooms, "take rope", 3);
        check.dueSaid(rooms, "take take", 2);
        check.due("it", rooms.count(5), 1);
        check.dueSaid(rooms, "open it", 7);
        check.done(rooms, "unlock it with key", "open it");
        check.due("the box is open", rooms.thing(1, 6), 1);
    }

    private static void itAtFirst(Check check) {
        Rooms rooms = Check.laid("r1;tb-r01;ta-r01c;");
        check.due("it", rooms.count(5), NONE);
        check.dueSaid(rooms, "take it", 3);
        check.done(rooms, "take all", "drop all", "look", "wait");
        check.dueSaid(rooms, "take it", 3);
        check.dueSaid(rooms, "put key in it", 3);
        check.dueSaid(rooms, "put it in box", 3);
        check.done(rooms, "take key");
        check.dueSaid(rooms, "take it", 9);
    }

    private static void itUnseen(Check check) {
        Rooms rooms = Check.laid("r1;r1;tb-r01;d01n;");
        check.done(rooms, "take key", "drop key", "n");
        check.dueSaid(rooms, "take it", 3);
        check.due("it is the key still", rooms.count(5), 0);
        check.done(rooms, "s", "take it");
        // In the dark: what was dropped, and what is in a bag that is held.
        Rooms dark = Check.laid("r1;r0;tb-r01;te-r01c;ti-r01;d01n;");
        check.done(dark, "take all", "put key in bag", "n");
        check.due("it", dark.count(5), 0);
        check.dueSaid(dark, "take it", 3);
        check.done(dark, "drop cup");
        check.due("it", dark.count(5), 2);
        check.dueSaid(dark, "take it", 3);
        check.dueSaid(dark, "put it in bag", 3);
        check.done(dark, "drop bag", "s");
    }

    private static void fitsNone(Check check) {
        for (String sentence : new String[] {"take rope", "drop rope", "put rope in red box", "put red key in rope", "put rope in rope",
            "open rope", "look in rope", "take rope from red box", "take red key from rope", "lock rope with red key",
            "unlock red box with rope", "put it on red box", "put key in rope", "take old key"}) {
            Rooms rooms = Check.laid(PAIRS);
            check.dueSaid(rooms, sentence, 3);
            check.due("doubt()", rooms.doubt(), NONE);
            check.due("turns", rooms.count(3), 0);
        }
    }

    private static void doneOrNot(Check check) {
        check.holds("If there is just one THING for P with which (and one for Q) the ACT CAN be done, and just one for Q with it, it is done.",
            SaySentencesTest::justOne);
        check.holds("If there is none at all, it is not done for the REASON with the lowest that FITS P (and the lowest that FITS Q).",
            SaySentencesTest::lowestReason);
    }

    private static void justOne(Check check) {
        Rooms rooms = Check.laid("r1;tbar01f;tbbr01;tbcr09f;taar01co;tabr01co;tfar01s;");
        // Three keys, of which one can be taken.
        check.done(rooms, "take key");
        check.due("the blue key", rooms.thing(1, 2), 2);
        check.due("it", rooms.count(5), 1);
        // Two boxes, of which one is open.
        check.done(rooms, "open blue box", "put key in box");
        check.due("in the blue box", rooms.thing(1, 3), 4);
        check.done(rooms, "open box");
        check.due("the red box is open", rooms.thing(3, 6), 1);
        check.done(rooms, "close red box", "close box");
        check.due("the blue box is closed", rooms.thing(4, 6), 0);
        // Each of P would do with another of Q, but one pair alone can be done.
        Rooms pairs = Check.laid("r1;taar01c;tabr01c;tbar01;tb-011;");
        check.done(pairs, "take key from box");
        check.due("the key of the blue box", pairs.thing(3, 2), 2);
        check.due("the red key", pairs.thing(2, 2), 0);
    }

    private static void lowestReason(Check check) {
        // The lowest that fits is fixed, the next are too heavy or held.
        Rooms rooms = Check.laid("r1;tbar01f;tbbr09;tbcr09;tadr01co;tacr01;");
        check.done(rooms, "take blue key");
        check.dueSaid(rooms, "take key", 8);
        check.due("of the second", rooms.would(0, 1, 0), 9);
        check.due("of the third", rooms.would(0, 2, 0), 10);
        // The lowest, not the first that would have a lower number.
        check.dueSaid(rooms, "put blue key in box", 6);
        check.due("of the other box", rooms.would(2, 1, 4), 8);
        check.dueSaid(rooms, "put key in box", 13);
        Rooms other = Check.laid("r1;tbar09;tbbr01f;taar01;tabr01co;");
        check.done(other, "take red key");
        check.dueSaid(other, "take key", 9);
        check.dueSaid(other, "put red key in box", 8);
        check.dueSaid(other, "put key in box", 8);
        check.due("doubt()", other.doubt(), NONE);
        check.due("turns", other.count(3), 1);
        // The lowest that is seen: the first key is not.
        Rooms seen = Check.laid("r1;r1;tbar11f;tbbr01;tbcr09f;");
        check.done(seen, "take blue key");
        check.dueSaid(seen, "take key", 9);
        check.dueSaid(seen, "drop old key", 13);
    }

    private static void doubts(Check check) {
        check.holds("If there are several for P, there is a DOUBT about P (4)", SaySentencesTest::severalForP);
        check.holds("if just one for P, but several for Q with it, a DOUBT about Q (4).", SaySentencesTest::severalForQ);
        check.holds("By a DOUBT that which it is about FITS just those several from now on, until there is none.",
            SaySentencesTest::justThoseSeveral);
        check.holds("The THINGS that the PHRASE in doubt FITS, as bits. NONE: there is no DOUBT.", SaySentencesTest::doubtAsBits);
    }

    private static void doubt(Check check, Rooms rooms, int bits, int phrases, int about) {
        check.due("doubt()", rooms.doubt(), bits);
        check.due("phrases", rooms.count(10), phrases);
        check.due("about", rooms.count(11), about);
    }

    private static void noDoubt(Check check, Rooms rooms) {
        doubt(check, rooms, NONE, 0, NONE);
    }

    private static void severalForP(Check check) {
        Rooms rooms = Check.laid(PAIRS);
        check.dueSaid(rooms, "take key", 4);
        doubt(check, rooms, 3, 1, 1);
        check.due("turns", rooms.count(3), 0);
        check.due("can be undone", rooms.count(6), 0);
        check.due("it", rooms.count(5), NONE);
        check.dueRow("nothing is held", t -> rooms.thing(t, 2), 0, 0, 0, 0);
        check.done(rooms, "take red key", "take blue key");
        // Several for P, and several for Q as well: about P first.
        check.dueSaid(rooms, "put key in box", 4);
        doubt(check, rooms, 3, 2, 1);
        // Several for P with one for Q each.
        check.dueSaid(rooms, "put key in red box", 4);
        doubt(check, rooms, 3, 2, 1);
        // Each of P would do with one of Q alone, and that another.
        Rooms two = Check.laid("r1;taar01c;tabr01c;tb-001;tb-011;");
        check.dueSaid(two, "take key from box", 4);
        doubt(check, two, 4 + 8, 2, 1);
        check.dueSaid(two, "take key from blue box", 0);
        check.due("the key of the blue box", two.thing(3, 2), 2);
    }

    private static void severalForQ(Check check) {
        Rooms rooms = Check.laid(PAIRS);
        check.done(rooms, "take red key");
        check.dueSaid(rooms, "put red key in box", 4);
        doubt(check, rooms, 4 + 8, 2, 2);
        check.due("turns", rooms.count(3), 1);
        check.due("held", rooms.thing(0, 2), 2);
        // Several fit P, but one alone would do.
        check.dueSaid(rooms, "put key in box", 4);
        doubt(check, rooms, 4 + 8, 2, 2);
        check.dueSaid(rooms, "put it in box", 4);
        doubt(check, rooms, 4 + 8, 2, 2);
        check.dueSaid(rooms, "blue", 0);
        check.due("in the blue box", rooms.thing(0, 3), 3);
    }

    private static void justThoseSeveral(Check check) {
        // Of five keys two can be taken; of four boxes two are open.
        Rooms rooms = Check.laid("r1;tbar01f;tbbr01;tbcr01f;tbdr01;tber01f;");
        check.dueSaid(rooms, "take key", 4);
        doubt(check, rooms, 2 + 8, 1, 1);
        check.dueSaid(rooms, "red", 3);
        check.dueSaid(rooms, "old key", 3);
        check.dueSaid(rooms, "big", 3);
        doubt(check, rooms, 2 + 8, 1, 1);
        check.dueSaid(rooms, "key", 4);
        doubt(check, rooms, 2 + 8, 1, 1);
        check.dueSaid(rooms, "new", 0);
        noDoubt(check, rooms);
        // Until there is none: the words fit all again.
        check.dueSaid(rooms, "take key", 0);
        Rooms boxes = Check.laid("r1;tbar01;taar01co;tabr01c;tacr01co;tadr01c;");
        check.done(boxes, "take key");
        check.dueSaid(boxes, "put key in box", 4);
        doubt(check, boxes, 4 + 16, 2, 2);
        check.dueSaid(boxes, "red", 3);
        check.dueSaid(boxes, "old box", 3);
        doubt(check, boxes, 4 + 16, 2, 2);
        check.dueSaid(boxes, "new box", 0);
        // A narrower one stays narrow.
        Rooms alike = Check.laid("r1;tbar01;tbar01;tbbr01;");
        check.dueSaid(alike, "take key", 4);
        doubt(check, alike, 7, 1, 1);
        check.dueSaid(alike, "red", 4);
        doubt(check, alike, 3, 1, 1);
        check.dueSaid(alike, "blue", 3);
        check.dueSaid(alike, "key", 4);
        doubt(check, alike, 3, 1, 1);
        check.dueSaid(alike, "take key", 4);
        doubt(check, alike, 7, 1, 1);
    }

    private static void doubtAsBits(Check check) {
        check.due("doubt() at first", new Rooms().doubt(), NONE);
        Rooms rooms = Check.laid("r1;" + "tb-r01;".repeat(16));
        check.due("doubt()", rooms.doubt(), NONE);
        check.dueSaid(rooms, "take key", 4);
        check.due("doubt() about all", rooms.doubt(), 65535);
        Rooms last = Check.laid("r1;" + "ta-r01;".repeat(14) + "tb-r01;tb-r01;");
        check.dueSaid(last, "take key", 4);
        check.due("doubt() about the last", last.doubt(), 3 << 14);
        check.dueSaid(last, "look", 0);
        check.due("doubt()", last.doubt(), NONE);
    }

    private static void answers(Check check) {
        check.holds("An ANSWER: of those that the PHRASE in doubt FITS, those that have its words", SaySentencesTest::answerOfThose);
        check.holds("if there are none, 3, the DOUBT stays", SaySentencesTest::answerOfNone);
        check.holds("else the SENTENCE again, that PHRASE FITTING these.", SaySentencesTest::sentenceAgain);
    }

    private static void answerOfThose(Check check) {
        Rooms rooms = Check.laid("r1;tbar01;tbbr01;tiar01;ticr01;");
        check.dueSaid(rooms, "take key", 4);
        // A red thing there is, too, but it is no key.
        check.dueSaid(rooms, "red", 0);
        check.due("the red key", rooms.thing(0, 2), 2);
        check.due("the red cup", rooms.thing(2, 2), 0);
        check.done(rooms, "drop it");
        check.dueSaid(rooms, "take key", 4);
        check.dueSaid(rooms, "red cup", 3);
        check.dueSaid(rooms, "cup", 3);
        check.dueSaid(rooms, "the old", 3);
        check.dueSaid(rooms, "blue key", 0);
        check.due("the blue key", rooms.thing(1, 2), 2);
        // The words mean the second PHRASE, when that is in doubt.
        Rooms pairs = Check.laid(PAIRS);
        check.done(pairs, "take red key");
        check.dueSaid(pairs, "put red key in box", 4);
        check.dueSaid(pairs, "key", 3);
        check.dueSaid(pairs, "blue", 0);
        check.due("the red key is in the blue box", pairs.thing(0, 3), 3);
    }

    private static void answerOfNone(Check check) {
        Rooms rooms = Check.laid(PAIRS);
        check.done(rooms, "take red key");
        check.dueSaid(rooms, "put key in box", 4);
        String[] none = {"old", "the gold", "old box", "key", "red key", "the rope", "iron door"};
        for (String answer : none) {
            check.dueSaid(rooms, answer, 3);
            doubt(check, rooms, 4 + 8, 2, 2);
        }
        check.due("turns", rooms.count(3), 1);
        check.dueSaid(rooms, "red", 0);
        noDoubt(check, rooms);
        check.due("in the red box", rooms.thing(0, 3), 2);
    }

    private static void sentenceAgain(Check check) {
        Rooms rooms = Check.laid("r1;tbar01;tbbr01;tbar01;taar01c;tabr01c;tbcr01;");
        check.done(rooms, "take old key", "drop it");
        check.dueSaid(rooms, "take key", 4);
        doubt(check, rooms, 1 + 2 + 4 + 32, 1, 1);
        check.dueSaid(rooms, "red", 4);
        doubt(check, rooms, 1 + 4, 1, 1);
        check.dueSaid(rooms, "take blue key", 0);
        check.done(rooms, "take old key");
        // About P, then about Q; P keeps what it fits meanwhile.
        check.dueSaid(rooms, "put key in box", 4);
        doubt(check, rooms, 2 + 32, 2, 1);
        check.dueSaid(rooms, "old", 4);
        doubt(check, rooms, 8 + 16, 2, 2);
        check.dueSaid(rooms, "the box", 4);
        doubt(check, rooms, 8 + 16, 2, 2);
        check.dueSaid(rooms, "blue box", 0);
        noDoubt(check, rooms);
        check.due("the old key is in the blue box", rooms.thing(5, 3), 4);
        check.due("the blue key is held", rooms.thing(1, 2), 2);
        check.due("it", rooms.count(5), 5);
        check.due("turns", rooms.count(3), 5);
        // One answer may do for both: with that P there is one Q alone.
        Rooms both = Check.laid("r1;taar01c;tabr01c;tbar01;tbbr01;ta-001c;");
        check.done(both, "take red key", "put red key in red box", "take blue key", "put blue key in blue box");
        check.dueSaid(both, "take key from box", 4);
        doubt(check, both, 4 + 8, 2, 1);
        check.dueSaid(both, "blue", 0);
        check.due("held", both.thing(3, 2), 2);
    }

    private static void ends(Check check) {
        check.holds("Any other SENTENCE, a FALSE one not (1, 2), ends a DOUBT first.", c -> {
            endsDoubt(c);
            endsNot(c);
            endsFirst(c);
        });
    }

    private static void endsDoubt(Check check) {
        String[] others = {"take red key", "take rope", "open red key", "drop red key", "put red key in rope", "take it", "take all",
            "drop all", "look", "wait", "n", "go s", "look in red box"};
        int[] due = {0, 3, 8, 13, 3, 3, 0, 17, 0, 0, 12, 12, 0};
        for (int i = 0; i < others.length; i++) {
            Rooms rooms = Check.laid(PAIRS);
            check.dueSaid(rooms, "take key", 4);
            check.dueSaid(rooms, others[i], due[i]);
            noDoubt(check, rooms);
            check.dueSaid(rooms, "blue", 2);
        }
        // Not done, and in the dark.
        Rooms dark = Check.laid("r0;tc-r01l;tc-r01l;");
        check.dueSaid(dark, "look", 5);
        noDoubt(check, dark);
    }

    private static void endsNot(Check check) {
        Rooms rooms = Check.laid(PAIRS);
        check.dueSaid(rooms, "take key", 4);
        for (String wrong : new String[] {"", " ", "xyz", "take xyz", "blue ", "wait "}) {
            check.dueSaid(rooms, wrong, 1);
            doubt(check, rooms, 3, 1, 1);
        }
        for (String wrong : new String[] {"take", "take red", "wait wait", "it", "the", "go", "red blue"}) {
            check.dueSaid(rooms, wrong, 2);
            doubt(check, rooms, 3, 1, 1);
        }
        check.dueSaid(rooms, "blue", 0);
    }

    private static void endsFirst(Check check) {
        // The words of a new SENTENCE fit all again, and it may be in doubt itself.
        Rooms rooms = Check.laid("r1;tbar01;tbar01;tbbr01;taar01c;tabr01c;");
        check.dueSaid(rooms, "take key", 4);
        check.dueSaid(rooms, "red", 4);
        check.dueSaid(rooms, "take blue key", 0);
        check.dueSaid(rooms, "take key", 4);
        doubt(check, rooms, 3, 1, 1);
        check.dueSaid(rooms, "put blue key in box", 4);
        doubt(check, rooms, 8 + 16, 2, 2);
        check.dueSaid(rooms, "take key", 4);
        doubt(check, rooms, 3, 1, 1);
    }
}
