import java.util.LinkedHashSet;
import java.util.Set;

/** What the tests share: they compare answers, look at whole receivers, and count what is wrong. */
final class Check {
    private static final int MOST_TOLD = 200;
    private static final Set<String> SENTENCES = new LinkedHashSet<>();
    private static int wrong = 0;
    private static String tried = "";

    private Check() {
    }

    /** A call of a receiver. */
    interface Call {
        Object on(LightReceiver receiver);
    }

    /** What is compared from here on tries these words of that section of the document. */
    static void sentence(String section, String words) {
        SENTENCES.add(section + ": " + words);
        tried = section + " '" + words + "': ";
    }

    /** The words that were tried so far, each behind the name of its section. */
    static Set<String> sentences() {
        return SENTENCES;
    }

    static void endOfSentences() {
        tried = "";
    }

    static void same(String what, Object got, Object due) {
        if (!got.equals(due)) {
            wrong++;
            if (wrong <= MOST_TOLD) {
                System.out.println(tried + what + " answered " + got + ", due is " + due);
            }
        }
    }

    /** The call throws exactly this exception, and it changes nothing that can be seen. */
    static void refuses(String what, LightReceiver receiver, Class<?> due, Call call) {
        String before = look(receiver);
        same(what, answer(receiver, call), "throws " + due.getSimpleName());
        same(what + " and what it left", look(receiver), before);
    }

    static void changesNothing(String what, LightReceiver receiver, Call call) {
        String before = look(receiver);
        call.on(receiver);
        same(what + " and what it left", look(receiver), before);
    }

    /** The call saves one state, and undo() restores what could be seen before the call. */
    static void isUndoable(String what, LightReceiver receiver, Call call) {
        String before = lookAtState(receiver);
        int saved = receiver.savedStates();
        call.on(receiver);
        same(what + ", savedStates()", receiver.savedStates(), Math.min(saved + 1, 6));
        receiver.undo();
        same(what + " and undo()", lookAtState(receiver), before);
    }

    /** The answer of the call, or the name of what it throws, as a text. */
    static String answer(LightReceiver receiver, Call call) {
        try {
            return String.valueOf(call.on(receiver));
        } catch (RuntimeException thrown) {
            return "throws " + thrown.getClass().getSimpleName();
        }
    }

    static String look(LightReceiver receiver) {
        return lookAtState(receiver) + " saved " + receiver.savedStates() + " error " + receiver.firstError();
    }

    /** The digest tells most of the state; the rest shows in the share, the light row and the frames. */
    static String lookAtState(LightReceiver receiver) {
        StringBuilder seen = new StringBuilder();
        seen.append("digest ").append(receiver.digest()).append(" gain ").append(receiver.gain());
        seen.append(" remembered ").append(receiver.remembered()).append(" row ").append(receiver.row());
        seen.append(" share ").append(receiver.hitShare()).append(" frames");
        int code = Math.max(receiver.remembered(), 0);
        for (int address = 0; address < 8; address++) {
            seen.append(' ').append(receiver.ifFrame(address, code, address & 1, 10));
        }
        return seen.toString();
    }

    static void shineAll(LightReceiver receiver, int... times) {
        for (int ticks : times) {
            receiver.shine(ticks);
        }
    }

    /** The times of a frame with these nine bits. */
    static int[] frameOf(String bits) {
        int[] times = new int[2 * bits.length() + 3];
        times[0] = 16;
        times[1] = 8;
        for (int i = 0; i < bits.length(); i++) {
            times[2 * i + 2] = 4;
            times[2 * i + 3] = bits.charAt(i) == '1' ? 12 : 4;
        }
        times[times.length - 1] = 4;
        return times;
    }

    static void type(LightReceiver receiver, String text) {
        for (int i = 0; i < text.length(); i++) {
            receiver.append(text.charAt(i));
        }
    }

    static void end() {
        if (wrong != 0) {
            System.out.println(wrong + " answers are not as due");
            System.exit(1);
        }
    }
}
