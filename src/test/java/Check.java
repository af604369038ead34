import java.util.ArrayList;
import java.util.List;

/** Counts answers that are not as due; a test ends by finish(). */
final class Check {
    private static final List<String> SENTENCES = new ArrayList<>();
    private static int asked = 0;
    private static int wrong = 0;
    private static int askedAhead = 0;

    private Check() {
    }

    /** The sentence of the document that the answers from here on hold to. */
    static void sentence(String words) {
        endSentence();
        SENTENCES.add(words);
    }

    /** A sentence under which nothing was asked has no test. */
    static void endSentence() {
        if (!SENTENCES.isEmpty() && asked == askedAhead) {
            wrong++;
            System.out.println("nothing was asked of: " + lastSentence());
        }
        askedAhead = asked;
    }

    static List<String> sentences() {
        return SENTENCES;
    }

    private static String lastSentence() {
        return SENTENCES.get(SENTENCES.size() - 1);
    }

    static void due(String what, long got, long want) {
        asked++;
        if (got != want) {
            wrong++;
            if (wrong <= 50) {
                String under = SENTENCES.isEmpty() ? "" : "[" + lastSentence() + "] ";
                System.out.println(under + what + " answered " + got + ", due is " + want);
            }
        }
    }

    static void due(String what, boolean got, boolean want) {
        due(what, got ? 1 : 0, want ? 1 : 0);
    }

    static void finish() {
        System.out.println(asked + " answers asked, " + wrong + " not as due");
        if (wrong != 0 || asked == 0) {
            System.exit(1);
        }
    }
}
