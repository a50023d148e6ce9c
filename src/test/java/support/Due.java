import java.util.LinkedHashMap;
import java.util.Map;

/** Counts and prints the answers that are not the ones that are due. */
final class Due {
    static final int BEYOND = -1000001;
    static final int NONE = -1000002;
    static final int STATE = -1000003;
    static final int FULL = -1000004;
    static final int KIND = -1000005;
    static final int PARTED = -1000006;

    private int asked = 0;
    private int wrong = 0;
    private String sentence = "";
    /** How many answers were asked for each sentence. */
    private final Map<String, Integer> sentences = new LinkedHashMap<>();

    /** The sentence of the document that the answers from here on are about. */
    void of(String said) {
        sentence = said;
        sentences.putIfAbsent(said, 0);
    }

    void is(String call, long got, long want) {
        asked++;
        sentences.merge(sentence, 1, Integer::sum);
        if (got != want) {
            wrong++;
            System.out.println((sentence.isEmpty() ? "" : sentence + " | ") + call + " answered " + got + ", due is " + want);
        }
    }

    /** Whether a sentence was asked about whose name begins so. */
    boolean askedOf(String start) {
        return sentences.entrySet().stream().anyMatch(e -> e.getKey().startsWith(start) && e.getValue() > 0);
    }

    /** Feeds a text to THE TAPE, 8 bytes at a time; answers the last feed()'s answer. */
    static int feed(HoleWater x, String text) {
        int answer = 0;
        for (int i = 0; i < text.length(); i += 8) {
            int n = Math.min(8, text.length() - i);
            long word = 0;
            for (int k = n - 1; k >= 0; k--) {
                word = word << 8 | text.charAt(i + k) & 255;
            }
            answer = x.feed(word, n);
        }
        return answer;
    }

    static int text(HoleWater x, int use, String text) {
        feed(x, text);
        return x.text(use);
    }

    void end() {
        for (Map.Entry<String, Integer> one : sentences.entrySet()) {
            if (one.getValue() == 0) {
                wrong++;
                System.out.println("nothing was asked of: " + one.getKey());
            }
        }
        String many = sentences.size() > 1 ? " of " + sentences.size() + " sentences" : "";
        System.out.println(asked + " answers" + many + ", " + wrong + " not as due");
        if (wrong != 0 || asked == 0) {
            System.exit(1);
        }
    }
}
