import java.io.IOException;
import java.nio.file.Files;
import java.nio.file.Path;

/** Answers asked for, each under the sentence of the document that would be broken if it were another one. */
final class Asked {
    private static final Path DOCUMENT = Path.of("../shared/DOC.md");
    private static String document = "";
    private static String sentence = "";
    private static int sentences;
    private static int answers;
    private static int answersBefore;
    private static int wrong;

    private Asked() {
    }

    /** What is asked from now on is asked for these words of the document; they must really stand there. */
    static void under(String words) {
        closeSentence();
        sentence = words;
        sentences++;
        answersBefore = answers;
        if (!text().contains(folded(words))) {
            fault("these words are not in the document");
        }
    }

    static void due(String call, int got, int want) {
        answers++;
        if (got != want) {
            fault(call + " answered " + got + ", due is " + want);
        }
    }

    static void so(String what, boolean is) {
        answers++;
        if (!is) {
            fault("not so: " + what);
        }
    }

    static void end() {
        closeSentence();
        System.out.println(sentences + " sentences, " + answers + " answers, " + wrong + " not as due");
        if (wrong != 0) {
            System.exit(1);
        }
    }

    private static void closeSentence() {
        if (sentences > 0 && answers == answersBefore) {
            fault("nothing was asked");
        }
    }

    private static void fault(String what) {
        wrong++;
        if (wrong <= 60) {
            System.out.println("\"" + sentence + "\": " + what);
        }
    }

    private static String folded(String words) {
        return words.replaceAll("\\s+", " ");
    }

    private static String text() {
        if (document.isEmpty()) {
            try {
                document = folded(Files.readString(DOCUMENT));
            } catch (IOException e) {
                throw new IllegalStateException(e);
            }
        }
        return document;
    }
}
