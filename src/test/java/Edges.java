import java.io.IOException;
import java.nio.file.Files;
import java.nio.file.Path;
import java.util.ArrayList;
import java.util.LinkedHashMap;
import java.util.List;
import java.util.Map;

/**
 * Tests of boundary cases. Each bears the sentence of the document that it stands for; at the end
 * the sentences are looked up in the document, so that none is made up and no "Throws" is left out.
 */
final class Edges {

    interface Test {
        void run();
    }

    private static final Path DOCUMENT = Path.of("../shared/DOC.md");

    final Checks checks = new Checks();
    private final Map<String, List<String>> sentences = new LinkedHashMap<>();
    private String part = "";

    /** The heading of the document's part that the next sentences come from, up to its colon. */
    void part(String heading) {
        part = heading;
        sentences.putIfAbsent(part, new ArrayList<>());
    }

    void edge(String sentence, Test test) {
        edge(sentence, "", test);
    }

    /** One sentence may name several cases: then the case is told, too. */
    void edge(String sentence, String which, Test test) {
        sentences.get(part).add(sentence);
        checks.begin(part + ", \"" + sentence + "\"" + (which.isEmpty() ? "" : ", " + which));
        checks.due("no exception", exceptionOf(test));
    }

    void close(String name) {
        checks.begin("the document");
        if (Files.exists(DOCUMENT)) {
            lookUp();
        }
        checks.close(name);
    }

    private static String exceptionOf(Test test) {
        try {
            test.run();
            return "no exception";
        } catch (RuntimeException e) {
            return e + " at " + e.getStackTrace()[0];
        }
    }

    private void lookUp() {
        Map<String, String> document = parts();
        for (String each : sentences.keySet()) {
            String text = document.getOrDefault(each, "");
            for (String sentence : sentences.get(each)) {
                checks.due(each + " says: " + sentence, text.contains(sentence)
                        ? each + " says: " + sentence : each + " does not say: " + sentence);
            }
            for (String line : text.split("\n")) {
                if (line.startsWith("Throws ") && !sentences.get(each).contains(line)) {
                    checks.due("a test", each + ": no test of: " + line);
                }
            }
        }
    }

    /** The document's parts by their headings, each line of them in one piece, without the quotes of code. */
    private static Map<String, String> parts() {
        Map<String, String> parts = new LinkedHashMap<>();
        String heading = "";
        for (String line : document().split("\n")) {
            if (line.startsWith("## ")) {
                heading = line.substring(3).replaceFirst(":.*", "");
            } else {
                parts.merge(heading, line.replace("`", "").trim(), (one, other) -> one + "\n" + other);
            }
        }
        return parts;
    }

    private static String document() {
        try {
            return Files.readString(DOCUMENT);
        } catch (IOException e) {
            throw new IllegalStateException(e);
        }
    }

    /** Statements for that many folders in the root; the folder with the number i is named as folderName(i) says. */
    static String folders(int howMany) {
        StringBuilder text = new StringBuilder();
        for (int i = 1; i <= howMany; i++) {
            text.append("folder ").append(folderName(i)).append(" root;");
        }
        return text.toString();
    }

    static String folderName(int i) {
        return "" + (char) ('a' + i % 26) + (char) ('a' + i / 26);
    }

    static String files(int howMany) {
        return "file root 1;".repeat(howMany);
    }

    /** A path of 40 folders: each but the root is the child of that with the number before. */
    static QuotaTree chain() {
        QuotaTree tree = new QuotaTree();
        for (int i = 1; i < 40; i++) {
            tree.addFolder(i - 1, Checks.name(folderName(i)));
        }
        return tree;
    }
}
