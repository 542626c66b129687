import java.io.IOException;
import java.nio.charset.StandardCharsets;
import java.nio.file.Files;
import java.nio.file.Path;
import java.util.List;
import java.util.regex.Matcher;
import java.util.regex.Pattern;

/** The rules of LANGUAGE.md that can be seen in the text of the class. FaceTest asks for those seen by reflection. */
public final class LanguageTest {
    // Rules 2, 6, 8 and 13: none of these stands in the class, as it needs none.
    private static final List<String> NOT_THERE = List.of("->", "::", "try", "catch", "finally", "assert",
            "synchronized", "instanceof", "package", "protected", "volatile", "transient", "native", "record", "sealed",
            "double", "float", "var", "System", "Thread", "Random", "Exact", "hashCode", "equals", "toString");
    private static final List<String> EXCEPTIONS =
            List.of("IllegalStateException", "IllegalArgumentException", "IndexOutOfBoundsException");
    private static final int LINES_OF_A_METHOD = 60;

    private LanguageTest() {
    }

    public static void main(String[] args) throws IOException {
        Path path = Path.of(System.getProperty("root", "."), "src/main/java/CallClub.java");
        String text = Files.readString(path, StandardCharsets.UTF_8);
        String code = withoutCommentsAndTexts(text);
        Check.equal("signs of 7 bits alone", text.chars().allMatch(sign -> sign < 128), true);
        theLibrary(code);
        whatIsNotThere(code);
        theExceptions(text);
        theStaticFields(code);
        theTexts(code);
        theMethods(code);
        Check.end();
    }

    private static String withoutCommentsAndTexts(String text) {
        String bare = Pattern.compile("/\\*.*?\\*/", Pattern.DOTALL).matcher(text).replaceAll("");
        return bare.replaceAll("//[^\n]*", "").replaceAll("\"[^\"\n]*\"", "\"\"");
    }

    private static void theLibrary(String code) {
        Matcher imports = Pattern.compile("import ([^;]*);").matcher(code);
        while (imports.find()) {
            Check.equal("import " + imports.group(1), imports.group(1).equals("java.util.Arrays"), true);
        }
        Matcher calls = Pattern.compile("\\b(Math|Arrays|Integer|Long)\\.(\\w+)").matcher(code);
        while (calls.find()) {
            boolean may = List.of("Math.min", "Math.max", "Math.floorDiv", "Arrays.fill").contains(calls.group());
            Check.equal(calls.group(), may, true);
        }
    }

    private static void whatIsNotThere(String code) {
        for (String word : NOT_THERE) {
            boolean letters = Character.isLetter(word.charAt(0));
            String pattern = letters ? "\\b" + word + "\\b" : Pattern.quote(word);
            Check.equal(word, Pattern.compile(pattern).matcher(code).find(), false);
        }
    }

    private static void theExceptions(String text) {
        Matcher thrown = Pattern.compile("throw ([^;]*);").matcher(text);
        int many = 0;
        while (thrown.find()) {
            many++;
            Matcher made = Pattern.compile("new (\\w+)\\(\"[^\"]+\"\\)").matcher(thrown.group(1));
            Check.equal(thrown.group(), made.matches() && EXCEPTIONS.contains(made.group(1)), true);
        }
        Check.equal("exceptions are thrown", many > 0, true);
    }

    private static void theStaticFields(String code) {
        Matcher fields = Pattern.compile("\\bstatic ([^;({]*)[;=]").matcher(code);
        while (fields.find()) {
            Check.equal("static " + fields.group(1), fields.group(1).startsWith("final int "), true);
        }
        Check.equal("no static block", Pattern.compile("\\bstatic \\{").matcher(code).find(), false);
    }

    private static void theTexts(String code) {
        Check.equal("no texts joined by +", Pattern.compile("\"\" *\\+|\\+ *\"\"").matcher(code).find(), false);
    }

    /** A method begins behind four or eight blanks, and ends with a brace behind as many. */
    private static void theMethods(String code) {
        String[] lines = code.split("\n");
        for (int i = 0; i < lines.length; i++) {
            Matcher head = Pattern.compile("( {4}| {8})(public |private |static )*\\w[\\w\\[\\]]* \\w+\\(.*")
                    .matcher(lines[i]);
            boolean call = lines[i].endsWith(";") || lines[i].matches(" *(return|throw|new|else|if|for|while) .*");
            if (head.matches() && !call) {
                Check.equal(lines[i].strip() + " is short", endOf(lines, i, head.group(1)) - i < LINES_OF_A_METHOD, true);
            }
        }
    }

    private static int endOf(String[] lines, int head, String blanks) {
        int i = head;
        while (i < lines.length && !lines[i].equals(blanks + "}")) {
            i++;
        }
        return i;
    }
}
