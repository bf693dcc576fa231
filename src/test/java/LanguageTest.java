import java.nio.file.Files;
import java.nio.file.Path;
import java.util.regex.Matcher;
import java.util.regex.Pattern;

/**
 * Rules of ../shared/LANGUAGE.md that a look at the text can hold: run from the project's folder.
 * Stricter than the rules where the program does without a thing that they would allow.
 */
public final class LanguageTest {
    private static final Path PROGRAM = Path.of("src/main/java/PaperlessRegistry.java");

    private static int wrong = 0;

    public static void main(String[] args) throws Exception {
        String all = Files.readString(PROGRAM);
        String code = withoutTextsAndComments(all);

        for (int n = 0; n < all.length(); n++) {
            check(all.charAt(n) < 128, "a sign above 127 at " + n);
        }
        String[] words = {"import", "package", "try", "catch", "finally", "synchronized", "assert", "native",
            "instanceof", "protected", "null", "float", "Object", "System", "Thread", "Random", "Iterator",
            "equals", "hashCode", "toString", "getClass", "NaN", "sqrt"};
        for (String word : words) {
            check(!Pattern.compile("\\b" + word + "\\b").matcher(code).find(), "the word " + word);
        }
        String[] signs = {"->", "::", "Exact(", "@"};
        for (String sign : signs) {
            check(!code.contains(sign), "the sign " + sign);
        }
        Matcher thrown = Pattern.compile("throw new (\\w+)").matcher(code);
        while (thrown.find()) {
            check(thrown.group(1).matches("IllegalStateException|IllegalArgumentException|IndexOutOfBoundsException"),
                    "an exception that the face does not name: " + thrown.group(1));
        }
        oneRoom(code);

        System.out.println(wrong == 0 ? "the language is kept" : wrong + " faults in the language");
        if (wrong != 0) {
            System.exit(1);
        }
    }

    /** Nothing but rows for fields is made, so that a call makes no object at all. */
    private static void oneRoom(String code) {
        for (String line : code.split("\n")) {
            String made = line.trim();
            if (made.contains("new ") && !made.startsWith("throw new ")) {
                check(made.startsWith("final ") || made.startsWith("private final ")
                        || made.equals("letters[n] = new Letter();") || made.equals("kinds[kind] = new Kind();"),
                        "an object made by a call: " + made);
            }
        }
    }

    private static String withoutTextsAndComments(String all) {
        String code = Pattern.compile("/\\*.*?\\*/", Pattern.DOTALL).matcher(all).replaceAll("");
        return code.replaceAll("//[^\n]*", "").replaceAll("\"[^\"\n]*\"", "\"\"");
    }

    private static void check(boolean holds, String otherwise) {
        if (!holds) {
            wrong++;
            System.out.println("LANGUAGE.md: " + otherwise);
        }
    }
}
