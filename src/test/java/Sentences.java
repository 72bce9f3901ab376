import java.io.IOException;
import java.nio.file.Files;
import java.nio.file.Path;

/** Checks under the sentences of DOC.md that they hold; each sentence must have checks of its own. */
final class Sentences {
    private final String test;
    private final Check check;
    private final String document = documentWithoutBreaks();
    private String sentence = "";
    private int sentences;
    private int checks;

    Sentences(String test) {
        this.test = test;
        check = new Check(test);
    }

    /** The checks that follow hold this sentence, told in the document's own words. */
    void says(String words) {
        closeSentence();
        sentence = words;
        sentences++;
        checks = 0;
        // Other words than these may say the same, so this is told, but fails nothing.
        if (!document.isEmpty() && !document.contains(words)) System.out.println(test + ": DOC.md doesn't say: " + words);
    }

    void due(String call, long got, long want) {
        checks++;
        check.due("\"" + sentence + "\": " + call, got, want);
    }

    void end() {
        closeSentence();
        System.out.println(test + ": " + sentences + " sentences");
        check.end();
    }

    private void closeSentence() {
        if (sentences > 0) check.holds("a check of \"" + sentence + "\"", checks > 0);
    }

    private static String documentWithoutBreaks() {
        String path = System.getProperty("doc");
        try {
            return path == null ? "" : Files.readString(Path.of(path));
        } catch (IOException e) {
            return "";
        }
    }
}
