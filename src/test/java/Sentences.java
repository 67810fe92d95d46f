import java.io.IOException;
import java.nio.file.Files;
import java.nio.file.Path;
import java.util.ArrayList;
import java.util.Arrays;
import java.util.List;

/**
 * Each test says which sentence of the document it is about, and a wrong answer is told with it. In the end no
 * words of the Terms or of a promise may be left without a test, nor a test with words that are not there.
 */
final class Sentences extends Check {
    /** Two sentences of the Terms that each call keeps to. */
    static final String FIRST_NAMED = "Refusals are answers, of several the first that a call names";
    static final String UNCHANGED = "What is refused changes nothing.";

    private static final Path DOCUMENT = Path.of("../shared/DOC.md");
    private static final int PROMISES = 21;

    private final Passage beginning;
    private final Passage terms;
    private final List<Passage> promises = new ArrayList<>();
    private String sentence = "";
    private int answers = 0;
    private int sentences = 0;

    Sentences() throws IOException {
        String document = Files.readString(DOCUMENT);
        beginning = new Passage(between(document, "## What it is", "## The public face"));
        terms = new Passage(between(document, "## Terms", "## Promise 1:")
                .replaceAll("Ahead of the calls[^\n]*", "").replaceAll("```(text)?", "").replaceAll("==== \\d", ""));
        for (int promise = 1; promise <= PROMISES; promise++) {
            String next = promise == PROMISES ? "## Not promised" : "## Promise " + (promise + 1) + ":";
            String whole = between(document, "## Promise " + promise + ":", next);
            promises.add(new Passage(whole.substring(whole.indexOf("`: ") + 3)));
        }
    }

    private static String between(String document, String start, String end) {
        return document.substring(document.indexOf(start) + start.length(), document.indexOf(end));
    }

    /** All answers from here on are about these words, of the promise itself or of the Terms that it uses. */
    void sentence(int promise, String words) {
        endSentence();
        sentences++;
        sentence = "Promise " + promise + ", \"" + words + "\": ";
        boolean found = promises.get(promise - 1).tell(words) || terms.tell(words) || beginning.tell(words);
        super.due(sentence + "stands in the document", found ? 1 : 0, 1);
    }

    private void endSentence() {
        if (sentences > 0) {
            super.due(sentence + "has answers", answers > 0 ? 1 : 0, 1);
        }
        answers = 0;
    }

    @Override
    void due(String call, long got, long want) {
        answers++;
        super.due(sentence + call, got, want);
    }

    @Override
    void end() {
        endSentence();
        super.due("Terms without a test: " + terms.untold(), terms.untold().length(), 0);
        for (int promise = 1; promise <= PROMISES; promise++) {
            String untold = promises.get(promise - 1).untold();
            super.due("Promise " + promise + " without a test: " + untold, untold.length(), 0);
        }
        System.out.println(sentences + " sentences");
        super.end();
    }

    /** Words of the document, and which of them a test has named. */
    private static final class Passage {
        private final String words;
        private final boolean[] told;

        Passage(String text) {
            words = text.replaceAll("\\s+", " ");
            told = new boolean[words.length()];
        }

        boolean tell(String some) {
            boolean found = false;
            for (int at = words.indexOf(some); at >= 0; at = words.indexOf(some, at + 1)) {
                Arrays.fill(told, at, at + some.length(), true);
                found = true;
            }
            return found;
        }

        String untold() {
            StringBuilder rest = new StringBuilder();
            for (int at = 0; at < told.length; at++) {
                boolean counts = Character.isLetterOrDigit(words.charAt(at)) && !told[at];
                rest.append(counts ? words.charAt(at) : ' ');
            }
            return rest.toString().replaceAll(" +", " ").trim();
        }
    }
}
