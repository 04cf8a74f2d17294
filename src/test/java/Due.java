import java.util.LinkedHashSet;
import java.util.Set;

/** Counts answers, prints those that are not the ones due, and ends the test. */
final class Due {
    /** One call of the face. */
    interface Call {
        int run();
    }

    private static final int MOST_TOLD = 200;

    private final String title;
    private final Set<String> sentences = new LinkedHashSet<>();
    private String sentence = "";
    private int rows = 0;
    private int wrong = 0;

    Due(String title) {
        this.title = title;
    }

    /** What comes next holds this sentence, which stands under this heading of the document. */
    void sentence(String heading, String words) {
        sentence = heading + " | " + words;
        sentences.add(sentence);
    }

    Set<String> sentences() {
        return sentences;
    }

    void answer(String call, Object got, Object want) {
        rows++;
        if (!got.equals(want)) {
            wrong++;
            // A fault in what everything is built on makes all rows wrong; the first ones tell it.
            if (wrong > MOST_TOLD) {
                return;
            }
            String held = sentence.isEmpty() ? "" : " [" + sentence + "]";
            System.out.println(title + held + ": " + call + " answered " + got + ", due is " + want);
        }
    }

    void refusal(String call, String want, Call run) {
        answer(call, outcome(run), want);
    }

    /** The answer, or the name of the very exception that came, so that none above or below it passes for it. */
    static String outcome(Call run) {
        try {
            return Integer.toString(run.run());
        } catch (RuntimeException e) {
            return e.getClass().getSimpleName();
        }
    }

    void end() {
        System.out.println(title + ": " + rows + " answers, " + wrong + " not as due");
        if (wrong != 0) {
            System.exit(1);
        }
    }
}
