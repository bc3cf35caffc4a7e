import java.io.IOException;
import java.nio.file.Files;
import java.nio.file.Path;

/** Counts the answers that are not as due, each by the sentence of the document that asks for it. */
final class Due {
    private static final Path DOCUMENT = Path.of("../shared/DOC.md");
    private static int wrong = 0;
    private static String sentence = "";
    private static String document;
    private static int read = 0;

    private Due() { }

    /** What is due from here on: words that must stand in the document, of a promise, or (0) of the terms. */
    static void says(int promise, String words) {
        sentence = (promise == 0 ? "terms" : "promise " + promise) + ", \"" + words + "\"";
        if (!section(promise).contains(words)) {
            wrong++;
            System.out.println(sentence + " does not stand there");
        }
    }

    /** What is due from here on: the words with which the document goes on behind those that were told so last. */
    static void next(String words) {
        sentence = "\"" + words + "\"";
        int from = read;
        while (document().startsWith(" ", from)) {
            from++;
        }
        if (document().startsWith(words, from)) {
            read = from + words.length();
        } else {
            wrong++;
            System.out.println(sentence + ": the document goes on with " + document.substring(from, Math.min(from + 80, document.length())));
        }
    }

    /** The document has no word behind those that were told by next(). */
    static void whole() {
        if (!document().substring(read).isBlank()) {
            wrong++;
            System.out.println("not gone through: " + document.substring(read));
        }
    }

    private static String document() {
        if (document == null) {
            try {
                document = Files.readString(DOCUMENT).replaceAll("\\s+", " ");
            } catch (IOException e) {
                throw new IllegalStateException("no " + DOCUMENT);
            }
        }
        return document;
    }

    private static String section(int promise) {
        String document = document();
        int from = document.indexOf(promise == 0 ? "## Terms" : "## Promise " + promise + ":");
        int to = promise == 0 ? document.indexOf("Ahead of the calls") : document.indexOf("## ", from + 3);
        return from < 0 || to < from ? "" : document.substring(from, to);
    }

    static void due(String what, long got, long want) {
        if (got != want) {
            note(what, String.valueOf(got), String.valueOf(want));
        }
    }

    static void due(String what, boolean got, boolean want) {
        due(what, got ? 1 : 0, want ? 1 : 0);
    }

    static void due(String what, String got, String want) {
        if (!got.equals(want)) {
            note(what, got, want);
        }
    }

    private static void note(String what, String got, String want) {
        wrong++;
        if (wrong <= 40) {
            System.out.println(sentence + ": " + what + " answered " + got + ", due is " + want);
        }
    }

    static void end() {
        System.out.println(wrong == 0 ? "all answers are as due" : wrong + " answers are not as due");
        if (wrong != 0) {
            System.exit(1);
        }
    }
}
