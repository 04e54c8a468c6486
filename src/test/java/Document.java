import java.io.IOException;
import java.nio.file.Files;
import java.nio.file.Path;
import java.util.HashMap;
import java.util.Map;

/** The document by its headings. A test quotes the words that its answers are due to; none may be left unquoted. */
final class Document {
    private static final Path PLACE = Path.of("..", "shared", "DOC.md");
    private static final Map<String, String> TEXTS = read();
    private static final Map<String, boolean[]> QUOTED = new HashMap<>();

    private Document() {
    }

    /** The answers that are asked from here on are due to these words under a heading. */
    static void says(String heading, String words) {
        Check.dueTo(words);
        String text = TEXTS.get(heading);
        if (text == null) {
            return;
        }
        int from = text.indexOf(words);
        Check.due("what is quoted stands under " + heading, true, () -> from >= 0);
        boolean[] quoted = QUOTED.computeIfAbsent(heading, h -> new boolean[text.length()]);
        for (int i = 0; from >= 0 && i < words.length(); i++) {
            quoted[from + i] = true;
        }
    }

    /** Fails for each word under a heading that no test of this run has quoted. */
    static void isQuoted(String heading) {
        Check.dueTo(heading);
        String text = TEXTS.get(heading);
        if (text == null) {
            System.out.println("not compared with " + PLACE + ": " + heading);
            return;
        }
        boolean[] quoted = QUOTED.getOrDefault(heading, new boolean[text.length()]);
        StringBuilder rest = new StringBuilder();
        for (int i = 0; i < text.length(); i++) {
            rest.append(quoted[i] ? ' ' : text.charAt(i));
        }
        Check.due("words that no test quotes", "", () -> rest.toString().trim());
    }

    /** The text under each heading, without the signatures, which FaceTest looks at. */
    private static Map<String, String> read() {
        Map<String, String> texts = new HashMap<>();
        try {
            for (String section : Files.readString(PLACE).split("(?m)^## ")) {
                String[] parts = section.split("\n", 2);
                String text = parts.length < 2 ? "" : parts[1].replaceAll("(?s)^\\s*`[^`]*`:", "");
                texts.put(parts[0].trim(), text.replaceAll("\\s+", " ").trim());
            }
        } catch (IOException e) {
            System.out.println("there is no document to compare with: " + e);
        }
        return texts;
    }
}
