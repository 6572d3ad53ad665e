import java.io.IOException;
import java.nio.charset.StandardCharsets;
import java.nio.file.Files;
import java.nio.file.Path;
import java.util.Set;
import java.util.regex.Matcher;
import java.util.regex.Pattern;

/** Those rules of LANGUAGE.md that can be seen in the text of the program; it is run where the project lies. */
final class LanguageTest {
    private static final Path SOURCE = Path.of("src/main/java/LightReceiver.java");
    private static final int LONGEST_METHOD = 60;

    public static void main(String[] args) throws IOException {
        byte[] bytes = Files.readAllBytes(SOURCE);
        for (byte one : bytes) {
            Check.same("a sign is 1 to 127", one > 0, true);
        }
        String text = withoutComments(new String(bytes, StandardCharsets.ISO_8859_1));
        Check.same("constants are told from code", text.contains("\"an argument is out of range\""), true);
        String code = text.replaceAll("\"[^\"\n]*\"", "\"\"").replaceAll("'[^'\n]*'", "' '");
        noForbiddenWord(code);
        onlyKnownFunctions(code);
        onlyKnownExceptions(code);
        noJoinedTexts(code);
        shortMethods(code);
        Check.end();
    }

    private static String withoutComments(String text) {
        return text.replaceAll("(?s)/\\*.*?\\*/", "").replaceAll("//[^\n]*", "");
    }

    private static void noForbiddenWord(String code) {
        String[] words = {
            "package\\b", "import\\b", "->", "::", "\\bsynchronized\\b", "\\bassert\\b", "\\bfinally\\b", "\\bcatch\\b",
            "\\btry\\b", "\\bequals\\b", "\\bhashCode\\b", "\\btoString\\b", "\\bObject\\b", "\\bThread\\b",
            "\\bfloat\\b", "\\w+Exact\\b", "\\bprotected\\b", "\\bnative\\b", "\\bvar\\b", "\\bstatic\\s*\\{", "@\\w+"
        };
        for (String word : words) {
            Check.same(word, Pattern.compile(word).matcher(code).find(), false);
        }
    }

    private static void onlyKnownFunctions(String code) {
        Set<String> known = Set.of("Math.max", "Math.min", "Integer.bitCount", "System.arraycopy");
        Matcher matcher = Pattern.compile("\\b(?:Math|Integer|Long|System|Arrays|String|Double|Character|java)\\.\\w+")
                .matcher(code);
        while (matcher.find()) {
            Check.same(matcher.group() + " is known", known.contains(matcher.group()), true);
        }
    }

    private static void onlyKnownExceptions(String code) {
        Matcher matcher = Pattern.compile("\\bthrow\\b[^;]*;").matcher(code);
        Pattern right = Pattern.compile(
                "throw new (IllegalStateException|IllegalArgumentException|IndexOutOfBoundsException)\\(\"\"\\);");
        while (matcher.find()) {
            Check.same(matcher.group(), right.matcher(matcher.group()).matches(), true);
        }
    }

    private static void noJoinedTexts(String code) {
        Check.same("texts joined by +", Pattern.compile("\"\"\\s*\\+|\\+\\s*\"\"").matcher(code).find(), false);
    }

    /** A method begins at a line that ends with an opening brace and has parentheses before it. */
    private static void shortMethods(String code) {
        String[] lines = code.split("\n");
        Pattern head = Pattern.compile("^( {4}| {8})[A-Za-z][^=;]*\\).*\\{$");
        int start = -1;
        String end = "";
        for (int i = 0; i < lines.length; i++) {
            Matcher matcher = head.matcher(lines[i]);
            boolean isBranch = lines[i].matches("^ *(if|for|while|switch|do|else)\\b.*");
            if (start < 0 && matcher.matches() && !isBranch) {
                start = i;
                end = matcher.group(1) + "}";
            } else if (start >= 0 && lines[i].equals(end)) {
                Check.same("few lines:" + lines[start], i - start + 1 <= LONGEST_METHOD, true);
                start = -1;
            }
        }
        Check.same("the last method has an end", start, -1);
    }
}
