import java.util.ArrayList;
import java.util.List;
import java.util.Random;
import java.util.regex.Pattern;

/** Which texts are SENTENCES, with and without a DOUBT: all of up to three WORDS, and many longer ones, against patterns. */
public final class GrammarTest {
    private static final String NOUNS = "box key lamp coin bag table chest book cup rope ball door";
    private static final String ADJECTIVES = "red blue old new big small gold iron";
    private static final String[] WORDS = (NOUNS + " " + ADJECTIVES + " take drop put open close lock unlock light douse go look wait "
        + "in on from with the it all n s e w").split(" ");
    private static final String[] FORMS = ("take P|drop P|take P from P|put P in P|put P on P|open P|close P|lock P with P|"
        + "unlock P with P|light P|douse P|look in P|take all|drop all|look|wait|go n|go s|go e|go w|n|s|e|w").split("\\|");
    private static final int LONGER = 200_000;

    private static final String NOUN = "(?:" + NOUNS.replace(' ', '|') + ")";
    private static final String ADJECTIVE = "(?:" + ADJECTIVES.replace(' ', '|') + ")";
    private static final String PHRASE = "(?:it|(?:the )?(?:" + ADJECTIVE + " )?" + NOUN + ")";
    private static final Pattern SENTENCE = Pattern.compile(String.join("|", FORMS).replace("P", PHRASE));
    private static final Pattern ANSWER = Pattern.compile("(?:the )?(?:" + ADJECTIVE + "|" + NOUN + "|" + ADJECTIVE + " " + NOUN + ")");

    private final Check check;
    private final Random random = new Random(1);

    private GrammarTest(Check check) {
        this.check = check;
    }

    public static void main(String[] args) {
        Check.all(check -> {
            GrammarTest test = new GrammarTest(check);
            test.sayAll("", 3);
            for (int i = 0; i < LONGER; i++) {
                test.sayBoth(test.longer());
            }
        });
    }

    private void sayAll(String ahead, int words) {
        for (String word : WORDS) {
            sayBoth(ahead + word);
            if (words > 1) {
                sayAll(ahead + word + " ", words - 1);
            }
        }
    }

    private void sayBoth(String text) {
        boolean isSentence = SENTENCE.matcher(text).matches();
        due(text, Check.typed(text).say(), isSentence);
        Rooms inDoubt = Check.typed("take box");
        inDoubt.say();
        due(text + " (in doubt)", Check.said(inDoubt, text), isSentence || ANSWER.matcher(text).matches());
    }

    private void due(String text, int said, boolean isSentence) {
        if ((said != 2) != isSentence || said == 1) {
            check.due("say \"" + text + "\"", said, isSentence ? 0 : 2);
        }
    }

    /** A SENTENCE, or one with a WORD too many, too few or another than is due. */
    private String longer() {
        String form = FORMS[random.nextInt(FORMS.length)];
        while (form.contains("P")) {
            form = form.replaceFirst("P", phrase());
        }
        List<String> words = new ArrayList<>(List.of(form.split(" ")));
        int at = random.nextInt(words.size());
        switch (random.nextInt(4)) {
            case 0 -> words.add(random.nextInt(words.size() + 1), oneOf(WORDS));
            case 1 -> words.set(at, oneOf(WORDS));
            case 2 -> {
                if (words.size() > 1) {
                    words.remove(at);
                }
            }
            default -> { }
        }
        return String.join(" ", words);
    }

    private String phrase() {
        if (random.nextInt(6) == 0) {
            return "it";
        }
        return (random.nextBoolean() ? "the " : "") + (random.nextBoolean() ? oneOf(ADJECTIVES.split(" ")) + " " : "")
            + oneOf(NOUNS.split(" "));
    }

    private String oneOf(String[] words) {
        return words[random.nextInt(words.length)];
    }
}
