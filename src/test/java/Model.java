import java.util.ArrayDeque;
import java.util.ArrayList;
import java.util.Deque;
import java.util.List;
import java.util.TreeMap;
import java.util.regex.Matcher;
import java.util.regex.Pattern;

/**
 * A second receiver, written from the document in another way (lists of bursts, patterns for texts, whole copies for
 * undo), for RandomRunsTest to compare with. Its calls take what LightReceiver's take, but in range only.
 */
final class Model {
    private static final String PART = "(f(0[0-9]|1[0-5])[01]|r|t[1-9][0-9]?|g[0-9])";
    private static final Pattern TEXT = Pattern.compile(PART + "(;" + PART + ")*");

    /** What undo brings back. */
    static final class Memory implements Cloneable {
        int glare = 0;
        int gain = 10;
        int address = 0;
        /** The code and the toggle of the last frame, such as "12/1", or empty. */
        String lastFrame = "";
        int since = -1;
        int holds = 0;
        int presses = 0;
        List<Integer> answers = new ArrayList<>();
        TreeMap<Integer, Integer> actions = new TreeMap<>();
        TreeMap<Integer, Integer> done = new TreeMap<>();
        List<Integer> row = new ArrayList<>();

        Memory copy() {
            try {
                Memory copy = (Memory) clone();
                copy.answers = new ArrayList<>(answers);
                copy.actions = new TreeMap<>(actions);
                copy.done = new TreeMap<>(done);
                copy.row = new ArrayList<>(row);
                return copy;
            } catch (CloneNotSupportedException never) {
                throw new IllegalStateException(never);
            }
        }

        boolean isForgotten() {
            return lastFrame.isEmpty() || since > 60;
        }
    }

    Memory now = new Memory();
    final Deque<Memory> saved = new ArrayDeque<>();
    String buffer = "";

    void save() {
        saved.addLast(now.copy());
        if (saved.size() == 7) {
            saved.removeFirst();
        }
    }

    int undo() {
        now = saved.removeLast();
        return saved.size();
    }

    static String bitsOf(int address, int code, int toggle) {
        String bits = Integer.toBinaryString(256 + 32 * address + 2 * code + toggle).substring(1);
        int parity = 0;
        for (char bit : bits.toCharArray()) {
            parity ^= bit - '0';
        }
        return bits + parity;
    }

    static List<Integer> frameLight(int address, int code, int toggle) {
        List<Integer> light = new ArrayList<>(List.of(16, 8));
        for (char bit : bitsOf(address, code, toggle).toCharArray()) {
            light.add(4);
            light.add(bit == '0' ? 4 : 12);
        }
        light.add(4);
        return light;
    }

    static List<Integer> repeatLight() {
        return List.of(16, 4, 4);
    }

    /** Receives light, and answers as frame() and receive() do. */
    int take(List<Integer> light, int strength) {
        List<Integer> seen = new ArrayList<>();
        for (int i = 0; i < light.size(); i++) {
            int change = now.glare * now.gain / 20;
            seen.add(i % 2 == 1 ? light.get(i) + change : Math.max(0, light.get(i) - change));
        }
        List<Boolean> isMissed = new ArrayList<>();
        for (int i = 0; i < seen.size(); i += 2) {
            isMissed.add(strength < 11 - now.gain || seen.get(i) < 2);
        }
        boolean any = isMissed.contains(true);
        int answer = meaning(leftOf(seen, isMissed));
        now.gain = any ? Math.max(1, now.gain - 1) : Math.min(now.gain + 1, 10 - now.glare);
        now.answers.add(answer);
        return answer;
    }

    /** Bursts at even places and pauses between them; the missed ones are taken out one by one. */
    private static List<Integer> leftOf(List<Integer> seen, List<Boolean> isMissed) {
        int first = isMissed.indexOf(false);
        int last = isMissed.lastIndexOf(false);
        List<Integer> left = new ArrayList<>();
        if (first < 0) {
            return left;
        }
        left.add(seen.get(2 * first));
        for (int burst = first + 1; burst <= last; burst++) {
            if (isMissed.get(burst - 1)) {
                int end = left.size() - 1;
                left.set(end, left.get(end) + seen.get(2 * burst - 2) + seen.get(2 * burst - 1));
            } else {
                left.add(seen.get(2 * burst - 1));
            }
            if (!isMissed.get(burst)) {
                left.add(seen.get(2 * burst));
            }
        }
        return left;
    }

    private int meaning(List<Integer> left) {
        int bursts = (left.size() + 1) / 2;
        if (bursts != 2 && bursts != 11) {
            return 1;
        }
        if (left.get(0) < 10 || left.get(0) > 20) {
            return 2;
        }
        if (bursts == 2) {
            return left.get(1) >= 7 ? 3 : takeRepeat();
        }
        StringBuilder bits = new StringBuilder();
        for (int pause = 3; pause < 21; pause += 2) {
            bits.append(left.get(pause) < 9 ? '0' : '1');
        }
        int address = Integer.parseInt(bits.substring(0, 3), 2);
        int code = Integer.parseInt(bits.substring(3, 7), 2);
        int toggle = Integer.parseInt(bits.substring(7, 8), 2);
        if (!bitsOf(address, code, toggle).equals(bits.toString())) {
            return 4;
        }
        return address == now.address ? takeFrame(code, toggle) : 5;
    }

    private int takeRepeat() {
        return now.isForgotten() ? 6 : hold();
    }

    private int takeFrame(int code, int toggle) {
        String name = code + "/" + toggle;
        if (!now.isForgotten() && name.equals(now.lastFrame)) {
            return hold();
        }
        now.lastFrame = name;
        now.since = 0;
        now.holds = 0;
        now.presses++;
        if (now.actions.getOrDefault(code, 0) != 0) {
            now.done.merge(code, 1, Integer::sum);
        }
        return 0;
    }

    private int hold() {
        now.since = 0;
        now.holds++;
        int code = lastCode();
        if (now.actions.getOrDefault(code, 0) == 2 && now.holds % 2 == 0) {
            now.done.merge(code, 1, Integer::sum);
        }
        return -1;
    }

    int lastCode() {
        return Integer.parseInt(now.lastFrame.substring(0, now.lastFrame.indexOf('/')));
    }

    int pass(int ticks) {
        if (!now.lastFrame.isEmpty()) {
            now.since += ticks;
        }
        return now.since;
    }

    int remembered() {
        return now.isForgotten() ? -1 : lastCode();
    }

    int refused(int reason) {
        int count = 0;
        for (int answer : now.answers) {
            count += answer == reason ? 1 : 0;
        }
        return count;
    }

    double hitShare() {
        int hits = refused(0) + refused(-1);
        return now.answers.isEmpty() ? 1.0 : (double) hits / (double) now.answers.size();
    }

    int ifFrame(int address, int code, int toggle, int strength) {
        Memory before = now.copy();
        int answer = take(frameLight(address, code, toggle), strength);
        now = before;
        return answer;
    }

    int leastStrength() {
        for (int strength = 1; strength <= 10; strength++) {
            if (ifFrame(now.address, 0, 0, strength) < 1) {
                return strength;
            }
        }
        return -1;
    }

    int refusalsToCome() {
        Memory before = now.copy();
        int refusals = 0;
        while (refusals <= 20 && take(frameLight(now.address, 0, 0), 10) > 0) {
            refusals++;
        }
        now = before;
        return refusals > 20 ? -1 : refusals;
    }

    int ticksToForget() {
        return now.isForgotten() ? -1 : 61 - now.since;
    }

    int firstError() {
        for (int length = 1; length <= buffer.length(); length++) {
            Matcher matcher = TEXT.matcher(buffer.substring(0, length));
            if (!matcher.matches() && !matcher.hitEnd()) {
                return length - 1;
            }
        }
        return buffer.length();
    }

    boolean isComplete() {
        return TEXT.matcher(buffer).matches();
    }

    int run() {
        save();
        int pressesBefore = now.presses;
        for (String part : buffer.split(";")) {
            char letter = part.charAt(0);
            int number = part.length() > 1 ? Integer.parseInt(part.substring(1)) : 0;
            if (letter == 'f') {
                take(frameLight(0, number / 10, number % 10), 10);
            } else if (letter == 'r') {
                take(repeatLight(), 10);
            } else if (letter == 't') {
                pass(number);
            } else {
                now.glare = number;
            }
        }
        buffer = "";
        return now.presses - pressesBefore;
    }

    long digest() {
        List<Integer> values = new ArrayList<>(List.of(now.glare, now.gain, remembered(), holds(), now.presses,
                now.row.size(), now.answers.size(), leastStrength(), refusalsToCome(), ticksToForget()));
        for (int code = 0; code < 16; code++) {
            values.add(now.actions.getOrDefault(code, 0));
            values.add(now.done.getOrDefault(code, 0));
        }
        for (int reason = 1; reason <= 6; reason++) {
            values.add(refused(reason));
        }
        long hash = 8302;
        for (int value : values) {
            hash = 31 * hash + value;
        }
        return hash;
    }

    int holds() {
        return now.isForgotten() ? 0 : now.holds;
    }
}
