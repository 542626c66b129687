import java.io.IOException;
import java.nio.charset.StandardCharsets;
import java.nio.file.Files;
import java.nio.file.Path;
import java.util.ArrayList;
import java.util.LinkedHashMap;
import java.util.List;
import java.util.Map;

/**
 * Ties tests to the sentences of the document: each test is told with the words that it tests. In the end the words
 * are compared with the document itself, so that no sentence that bounds something is left without a test of its own.
 */
final class Doc {
    private static final String TERMS = "Terms";
    // Parts of a comment that bound nothing by themselves.
    private static final List<String> NO_BOUND = List.of("its number", "its member", "a ship", "whether it is struck",
            "as told", "the cents");
    private static final Map<String, List<String>> QUOTES = new LinkedHashMap<>();
    private static String section = "";

    private Doc() {
    }

    static void terms() {
        begin(TERMS);
    }

    static void promise(int number) {
        begin("Promise " + number);
    }

    private static void begin(String name) {
        section = name;
        QUOTES.putIfAbsent(name, new ArrayList<>());
    }

    static void says(String quote, Check.Call test) {
        QUOTES.get(section).add(quote);
        Check.about(section + ", '" + quote + "': ");
        test.run();
        Check.about("");
    }

    /** Compares the words of the tests with the document, if that is there. */
    static void compare() throws IOException {
        Path path = Path.of(System.getProperty("shared", "../shared"), "DOC.md");
        if (!Files.isReadable(path)) {
            System.out.println(path + " is not there; the words of the tests were not compared with it");
            return;
        }
        String[] parts = Files.readString(path, StandardCharsets.UTF_8).split("\n## ");
        int known = 0;
        for (String part : parts) {
            String name = part.substring(0, part.indexOf('\n')).split(":")[0].strip();
            String text = part.substring(part.indexOf('\n')).replaceAll("\\s+", " ");
            if (name.equals(TERMS) || name.startsWith("Promise ")) {
                known++;
                compareSection(name, text);
            }
        }
        Check.equal("sections of the document", known, 35);
    }

    private static void compareSection(String name, String text) {
        boolean[] quoted = new boolean[text.length()];
        for (String quote : QUOTES.getOrDefault(name, List.of())) {
            Check.equal(name + " has the words '" + quote + "'", mark(quoted, text, quote), true);
        }
        if (name.equals(TERMS)) {
            compareSentences(name, text, quoted);
        } else {
            compareComment(name, text, quoted);
        }
    }

    private static boolean mark(boolean[] quoted, String text, String quote) {
        boolean there = false;
        for (int at = text.indexOf(quote); at >= 0; at = text.indexOf(quote, at + 1)) {
            there = true;
            for (int i = at; i < at + quote.length(); i++) {
                quoted[i] = true;
            }
        }
        return there;
    }

    private static void compareSentences(String name, String text, boolean[] quoted) {
        int last = text.indexOf("The constants:");
        int from = text.indexOf("If several exceptions");
        for (int i = from; i < last; i++) {
            if (text.charAt(i) == '.' || text.charAt(i) == ';') {
                tested(name, text, quoted, from, i);
                from = i + 1;
            }
        }
    }

    private static void compareComment(String name, String text, boolean[] quoted) {
        int from = text.indexOf('@');
        while (from >= 0) {
            int next = text.indexOf('@', from + 1);
            int end = next < 0 ? text.length() : next;
            boolean named = text.startsWith("@param", from) || text.startsWith("@throws", from);
            int words = text.indexOf(' ', from) + 1;
            compareParts(name, text, quoted, named ? text.indexOf(' ', words) + 1 : words, end);
            from = next;
        }
    }

    private static void compareParts(String name, String text, boolean[] quoted, int from, int end) {
        int begin = from;
        for (int i = from; i < end; i++) {
            if (text.charAt(i) == ',' || text.charAt(i) == ';' || text.startsWith(" or ", i)) {
                tested(name, text, quoted, begin, i);
                begin = i + 1;
            }
        }
        tested(name, text, quoted, begin, end);
    }

    private static void tested(String name, String text, boolean[] quoted, int from, int end) {
        String words = text.substring(from, end).strip();
        boolean any = words.isEmpty() || NO_BOUND.contains(words);
        for (int i = from; i < end; i++) {
            any |= quoted[i];
        }
        Check.equal(name + " has a test of '" + words + "'", any, true);
    }
}
