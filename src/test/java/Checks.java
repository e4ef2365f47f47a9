import java.io.IOException;
import java.nio.charset.StandardCharsets;
import java.nio.file.Files;
import java.nio.file.Path;
import java.util.HashSet;
import java.util.Set;

/**
 * Checks that stand each under a sentence of the document. A sentence that is quoted otherwise than the document says it is itself
 * a wrong one, so that no test goes on testing what is no longer promised.
 */
final class Checks {
    private static final Path DOCUMENT = Path.of("../shared/DOC.md");

    private final String name;
    private final String document;
    private String where = "";
    private final Set<String> sentences = new HashSet<>();
    private int row = 0;
    private int checks = 0;
    private int wrong = 0;

    Checks(String name) {
        this.name = name;
        document = read();
    }

    private static String read() {
        if (!Files.exists(DOCUMENT)) {
            return "";
        }
        try {
            return plain(Files.readString(DOCUMENT, StandardCharsets.UTF_8));
        } catch (IOException e) {
            return "";
        }
    }

    static String plain(String text) {
        return text.replaceAll("\\s+", " ");
    }

    private static String heading(int promise) {
        return promise < 0 ? "What it is" : promise == 0 ? "Terms" : "Promise " + promise + ":";
    }

    /** From a heading on to the next one; all blanks are single ones. */
    String part(int promise) {
        int from = document.indexOf("## " + heading(promise));
        int to = from < 0 ? -1 : document.indexOf(" ## ", from + 1);
        return from < 0 ? "" : document.substring(from, to < 0 ? document.length() : to);
    }

    /** Promise 0: what the terms say; -1: what the class is. */
    void says(int promise, String sentence) {
        where = heading(promise) + " \"" + sentence + "\"";
        row = 0;
        sentences.add(where);
        if (!document.isEmpty() && !part(promise).contains(plain(sentence))) {
            wrong++;
            System.out.println(where + ": the document does not say so");
        }
    }

    void due(int want, int got) {
        checks++;
        row++;
        if (got != want) {
            wrong++;
            System.out.println(where + ", check " + row + ": answered " + got + ", due is " + want);
        }
    }

    /** What, said in words, tells which one of many like checks it is. */
    void due(String what, int want, int got) {
        checks++;
        row++;
        if (got != want) {
            wrong++;
            System.out.println(where + ", " + what + ": answered " + got + ", due is " + want);
        }
    }

    void isSo(String what, boolean holds) {
        checks++;
        row++;
        if (!holds) {
            wrong++;
            System.out.println(where + ", " + what + ": not so");
        }
    }

    void end() {
        System.out.println(name + ": " + sentences.size() + " sentences, " + checks + " checks, " + wrong + " wrong");
        System.exit(wrong == 0 ? 0 : 1);
    }
}
