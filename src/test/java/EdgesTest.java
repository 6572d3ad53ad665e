import java.io.IOException;
import java.nio.charset.StandardCharsets;
import java.nio.file.Files;
import java.nio.file.Path;
import java.util.ArrayList;
import java.util.List;
import java.util.Map;
import java.util.Set;
import java.util.TreeMap;

/**
 * Every sentence of the document that names a boundary case, each with a test of its own; then that the words which
 * were tried do stand in the document, and that no sentence was left out. It is run where the project lies.
 */
final class EdgesTest {
    private static final Path DOCUMENT = Path.of("../shared/DOC.md");
    /** Headings that stand in the document without their signs. */
    private static final Set<String> BARE_HEADINGS = Set.of("Light, glare, gain", "Presses, actions");
    /** Sections that name no boundary case; FaceTest tries the public face. */
    private static final Set<String> OTHER_SECTIONS = Set.of("", "The public face", "Not promised");
    /** Sentences that name no boundary case. */
    private static final Set<String> OTHER_SENTENCES = Set.of(
            "All numbers are integers, except for hitShare()", "Times are in ticks", "what later calls answer is free",
            "A frame is sent and received", "Sets the glare", "Returns the action of a code", "Returns the number of times",
            "Returns the share of light that was accepted", "Returns a bit of a frame",
            "Finds the first error of the buffer", "Computes a hash of the state");
    private static final String[] OTHER_BEGINNINGS = {
        "An infrared receiver of a remote control", "light that is sent as bursts and pauses, glare",
        "Ahead of the calls frame", "Ahead of the calls setGlare", "Ahead of the calls glare",
        "Ahead of the calls append", "Ahead of the calls undo"
    };

    public static void main(String[] args) throws IOException {
        LightEdges.tryAll();
        PressesEdges.tryAll();
        CallsEdges.tryAll();
        QueriesEdges.tryAll();
        ForecastEdges.tryAll();
        TextEdges.tryAll();
        UndoEdges.tryAll();
        Check.endOfSentences();
        compareWithDocument();
        Check.end();
    }

    private static void compareWithDocument() throws IOException {
        Map<String, List<String>> sections = sections();
        Check.same("sections", sections.keySet().containsAll(Set.of("Terms", "Undo", "Promise 1", "Promise 32")), true);
        for (String tried : Check.sentences()) {
            String section = tried.substring(0, tried.indexOf(": "));
            String words = plain(tried.substring(section.length() + 2));
            boolean isThere = textOf(sections, section).contains(words);
            Check.same("'" + words + "' stands under " + section, isThere, true);
        }
        for (Map.Entry<String, List<String>> section : sections.entrySet()) {
            for (String line : section.getValue()) {
                for (String sentence : sentencesOf(line)) {
                    boolean isTried = isOther(section.getKey(), sentence) || isTried(section.getKey(), sentence);
                    Check.same("'" + sentence + "' under " + section.getKey() + " is tried", isTried, true);
                }
            }
        }
    }

    /** The lines of the document by their headings; a promise is named without its call. */
    private static Map<String, List<String>> sections() throws IOException {
        Map<String, List<String>> sections = new TreeMap<>();
        String section = "";
        for (String line : Files.readAllLines(DOCUMENT, StandardCharsets.UTF_8)) {
            if (line.startsWith("#") || BARE_HEADINGS.contains(line)) {
                section = line.replaceFirst("^#+ ", "").replaceFirst("^(Promise \\d+):.*", "$1");
            } else if (!line.isBlank()) {
                sections.computeIfAbsent(section, name -> new ArrayList<>()).add(plain(line));
            }
        }
        return sections;
    }

    private static String plain(String line) {
        return line.replace("`", "").replaceAll("\\s+", " ").trim();
    }

    private static boolean isTerm(String section) {
        return !section.startsWith("Promise ") && !OTHER_SECTIONS.contains(section);
    }

    /** The words of a section; those of all terms for "Terms". */
    private static String textOf(Map<String, List<String>> sections, String section) {
        StringBuilder text = new StringBuilder();
        for (Map.Entry<String, List<String>> one : sections.entrySet()) {
            if (one.getKey().equals(section) || section.equals("Terms") && isTerm(one.getKey())) {
                text.append(String.join(" ", one.getValue())).append(' ');
            }
        }
        return text.toString();
    }

    /** What a line says, without the call that a promise begins with (FaceTest tries it), and without end signs. */
    private static String[] sentencesOf(String line) {
        String words = line.replaceFirst("^(int|long|double|LightReceiver)\\b[^(:]*\\([^)]*\\)[^:]*: ", "");
        return words.replaceFirst("^(-|\\d+\\.) ", "").replaceFirst("[.:;]$", "").split("[.:;] (?=[A-Za-z(])");
    }

    private static boolean isOther(String section, String sentence) {
        boolean isOther = OTHER_SECTIONS.contains(section) || OTHER_SENTENCES.contains(sentence);
        for (String beginning : OTHER_BEGINNINGS) {
            isOther |= sentence.startsWith(beginning);
        }
        return isOther;
    }

    private static boolean isTried(String section, String sentence) {
        for (String tried : Check.sentences()) {
            String name = tried.substring(0, tried.indexOf(": "));
            String words = plain(tried.substring(name.length() + 2));
            boolean isHere = name.equals(section) || name.equals("Terms") && isTerm(section);
            if (isHere && (sentence.contains(words) || words.contains(sentence))) {
                return true;
            }
        }
        return false;
    }
}
