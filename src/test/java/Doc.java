import java.io.IOException;
import java.nio.file.Files;
import java.nio.file.Path;
import java.util.TreeMap;

/** The document by its sections, so that a test can name the very sentence that it tests. */
final class Doc {
    private static final Path PLACE = Path.of("../shared/DOC.md");

    private final TreeMap<String, String> sections = new TreeMap<>();

    /** Without the document nothing can be held against it, which is said, and is no fault of the class. */
    Doc() {
        if (!Files.isReadable(PLACE)) {
            System.out.println("there is no " + PLACE + " to look for sentences in");
            return;
        }
        try {
            for (String section : Files.readString(PLACE).split("\n## ")) {
                String head = section.split("[:\n]")[0].strip();
                sections.put(head, plain(section));
            }
        } catch (IOException unread) {
            throw new IllegalStateException(unread);
        }
    }

    boolean holds(String section, String sentence) {
        return sections.isEmpty() || sections.getOrDefault(section, "").contains(plain(sentence));
    }

    private static String plain(String text) {
        return text.replaceAll("\\s+", " ");
    }
}
