import java.io.IOException;
import java.nio.charset.StandardCharsets;
import java.nio.file.Files;
import java.nio.file.Path;
import java.util.Set;
import java.util.regex.Matcher;
import java.util.regex.Pattern;

/** Those rules of LANGUAGE.md that can be seen in the text of the program; it is run where the project lies. */
final class LanguageTest {
    private static final Path SOURCE = Path.of("src/main/java/LightReceiver.java");
    private static final int LONGEST_METHOD = 65;

    public static void main(String[] args) throws IOException {
        byte[] bytes = Files.readAllBytes(SOURCE);
        for (byte one : bytes) {
            Check.same("a sign is 1 to 127", one > 0, true);
        }
        Check.same("code is told from the rest", codeOf("a(\"x::y\", '+'); // z\n/* v\n */b"), "a(\"\", ' '); \nb");
        String code = codeOf(new String(bytes, StandardCharsets.ISO_8859_1));
        noForbiddenWord(code);
        onlyKnownFunctions(code);
        onlyKnownExceptions(code);
        noJoinedTexts(code);
        shortMethods(code);
        Check.end();
    }

    /** The text without comments, and with nothing between the signs around texts and characters. */
    private static String codeOf(String text) {
        String withoutComments = text.replaceAll("(?s)/\\*.*?\\*/", "").replaceAll("//[^\n]*", "");
        return withoutComments.replaceAll("\"[^\"\n]*\"", "\"\"").replaceAll("'[^'\n]*'", "' '");
    }

    private static void noForbiddenWord(String code) {
        String[] words = {
            "\\bpackage\\b", "::", "\\bsynchronized\\b", "\\bassert\\b", "\\bfinally\\b", "\\btry\\s*\\(",
            "\\bObject\\b", "\\bThread\\b", "\\w+Exact\\b", "\\bprotected\\b", "\\bnative\\b", "\\bstatic\\s*\\{",
            "\\bboolean\\s+equals\\s*\\(", "\\bint\\s+hashCode\\s*\\(", "\\bString\\s+toString\\s*\\(",
            "\\bextends\\s+\\w*Exception\\b", "\\bimport\\s+(?!java\\.util\\.\\w+;)"
        };
        for (String word : words) {
            Check.same(word, Pattern.compile(word).matcher(code).find(), false);
        }
        for (String line : code.split("\n")) {
            boolean isLambda = line.contains("->") && !line.matches("\\s*(case\\b[^>]*|default\\s*)->.*");
            Check.same("a lambda in" + line, isLambda, false);
        }
    }

    private static void onlyKnownFunctions(String code) {
        Set<String> known = Set.of("compare", "max", "min", "abs", "signum", "sum", "bitCount", "floorDiv", "floorMod",
                "numberOfLeadingZeros", "numberOfTrailingZeros", "highestOneBit", "lowestOneBit", "MAX_VALUE", "MIN_VALUE",
                "rotateLeft", "rotateRight", "arraycopy", "copyOf", "copyOfRange", "fill");
        Matcher matcher = Pattern.compile("\\b(?:Math|Integer|Long|System|Arrays|String|Double|Character)\\.(\\w+)")
                .matcher(code);
        while (matcher.find()) {
            Check.same(matcher.group() + " is known", known.contains(matcher.group(1)), true);
        }
    }

    /** What the Java machine throws is not caught either, by its own name or by that of a class above it. */
    private static void onlyKnownExceptions(String code) {
        Matcher matcher = Pattern.compile("\\bthrow\\b[^;]*;").matcher(code);
        Pattern right = Pattern.compile("throw new (IllegalStateException|IllegalArgumentException|"
                + "IndexOutOfBoundsException|ArithmeticException|UnsupportedOperationException|NoSuchElementException|"
                + "RuntimeException)\\((\"\")?\\);");
        while (matcher.find()) {
            Check.same(matcher.group(), right.matcher(matcher.group()).matches(), true);
        }
        Pattern machine = Pattern.compile("\\bcatch\\s*\\([^)]*\\b(Throwable|Error|Exception|RuntimeException|"
                + "IndexOutOfBoundsException|ArrayIndexOutOfBoundsException|StringIndexOutOfBoundsException|"
                + "NullPointerException|ClassCastException|NegativeArraySizeException|ArrayStoreException)\\b");
        Check.same("what the machine throws is caught", machine.matcher(code).find(), false);
    }

    private static void noJoinedTexts(String code) {
        Check.same("texts joined by +", Pattern.compile("\"\"\\s*\\+|\\+\\s*\"\"").matcher(code).find(), false);
    }

    /** A method begins at a line that ends with an opening brace and has parentheses before it. */
    private static void shortMethods(String code) {
        String[] lines = code.split("\n");
        Pattern head = Pattern.compile("^( {4}| {8})[A-Za-z][^=;]*\\).*\\{$");
        int start = -1;
        String end = "";
        for (int i = 0; i < lines.length; i++) {
            Matcher matcher = head.matcher(lines[i]);
            boolean isBranch = lines[i].matches("^ *(if|for|while|switch|do|else)\\b.*");
            if (start < 0 && matcher.matches() && !isBranch) {
                start = i;
                end = matcher.group(1) + "}";
            } else if (start >= 0 && lines[i].equals(end)) {
                Check.same("few lines:" + lines[start], i - start + 1 <= LONGEST_METHOD, true);
                start = -1;
            }
        }
        Check.same("the last method has an end", start, -1);
    }
}
