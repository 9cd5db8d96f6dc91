import java.io.IOException;
import java.nio.file.Files;
import java.nio.file.Path;

/** Answers checked under the sentence of the document that asks for them, word by word. */
final class Quote {
    private static final Path DOCUMENT = Path.of("../shared/DOC.md");
    private final Check check;
    private final String document;
    private String sentence = "";

    Quote(String name) {
        check = new Check(name);
        document = plain(read());
        if (document.isEmpty()) {
            System.out.println(name + ": " + DOCUMENT + " is not here, so its sentences are not looked up");
        }
    }

    /** All that is due from here on is asked by these words; they must stand in the document. */
    void says(String words) {
        sentence = words;
        boolean stands = document.isEmpty() || document.contains(plain(words));
        check.due("the document says \"" + words + "\"", stands ? 1 : 0, 1);
    }

    void due(String call, long got, long want) {
        check.due("\"" + sentence + "\": " + call, got, want);
    }

    void dueText(String call, String got, String want) {
        check.dueText("\"" + sentence + "\": " + call, got, want);
    }

    void end() {
        check.end();
    }

    /** Without the document the answers are due all the same. */
    private static String read() {
        if (!Files.exists(DOCUMENT)) {
            return "";
        }
        try {
            return Files.readString(DOCUMENT);
        } catch (IOException e) {
            throw new IllegalStateException("can't be read: " + DOCUMENT, e);
        }
    }

    private static String plain(String words) {
        return words.replace("`", "").replaceAll("\\s+", " ").trim();
    }
}
