/**
 * Receivers that were used in certain ways, and what later calls can tell of them. A scene makes a receiver anew each
 * time, used in the same way, so that two of them can be compared to the end, or one with and one without a call.
 */
final class Scenes {
    private static final Check.Call NOTHING = x -> 0;
    private static final Check.Call[] PARTS = {
        Check::look,
        Scenes::tellTimeAndAddress,
        Scenes::tellRow,
        Scenes::tellRowByOneTimeMore,
        Scenes::tellSaves,
        Scenes::tellBuffer,
        Scenes::tellBufferByOnePartMore,
        Scenes::tellHolds,
    };

    private Scenes() {
    }

    interface Scene {
        LightReceiver make();
    }

    /** A call with a number. */
    interface CallWith {
        Object on(LightReceiver receiver, int number);
    }

    /** All parts of the state differ from those of a new receiver, and six states are saved. */
    static LightReceiver busy() {
        LightReceiver x = new LightReceiver();
        x.learn(3, 2);
        x.learn(15, 1);
        x.setGlare(2);
        x.frame(5, 3, 1, 10);
        x.setAddress(5);
        x.frame(5, 3, 1, 10);
        x.repeat(10);
        x.repeat(10);
        x.repeat(10);
        Check.shineAll(x, 16, 4, 5);
        x.pass(7);
        Check.type(x, "f0");
        return x;
    }

    /** As busy, but five states are saved, so that there is room for one. */
    static LightReceiver busyWithRoom() {
        LightReceiver x = busy();
        x.pass(1);
        x.undo();
        return x;
    }

    static LightReceiver fullRow() {
        LightReceiver x = busy();
        while (x.row() < 30) {
            x.shine(4);
        }
        return x;
    }

    static LightReceiver evenRow() {
        LightReceiver x = busy();
        x.shine(6);
        return x;
    }

    static LightReceiver fullBuffer() {
        LightReceiver x = busy();
        x.clearText();
        Check.type(x, "r;".repeat(28) + "f091");
        return x;
    }

    /** As busy, with another text in the buffer. */
    static LightReceiver typed(String text) {
        LightReceiver x = busy();
        x.clearText();
        Check.type(x, text);
        return x;
    }

    /** A new receiver with this gain and glare; a lone burst of 1 tick lessens the gain, but is never accepted. */
    static LightReceiver withGlareAndGain(int glare, int gain) {
        LightReceiver x = new LightReceiver();
        for (int i = gain; i < 10; i++) {
            x.shine(1);
            x.receive(10);
        }
        x.setGlare(glare);
        return x;
    }

    static String trace(Scene scene) {
        return traceAfter(scene, NOTHING);
    }

    /** All that later calls can tell after the call. */
    static String traceAfter(Scene scene, Check.Call call) {
        StringBuilder told = new StringBuilder();
        for (Check.Call part : PARTS) {
            LightReceiver x = scene.make();
            Check.answer(x, call);
            told.append(Check.answer(x, part)).append('\n');
        }
        return told.toString();
    }

    /** The call throws exactly this exception, and no later call can tell that it was made. */
    static void refuses(String what, Scene scene, Class<?> due, Check.Call call) {
        Check.same(what, Check.answer(scene.make(), call), "throws " + due.getSimpleName());
        changesNothing(what, scene, call);
    }

    /** No later call can tell that the call was made. */
    static void changesNothing(String what, Scene scene, Check.Call call) {
        Check.same(what + ", what it left", traceAfter(scene, call), trace(scene));
    }

    /** The call saves one state, and after undo() no later call can tell that it was made. */
    static void isUndone(String what, Scene scene, Check.Call call) {
        LightReceiver x = scene.make();
        int saved = x.savedStates();
        call.on(x);
        Check.same(what + ", savedStates()", x.savedStates(), saved + 1);
        Check.same(what + ", undo()", x.undo(), saved);
        changesNothing(what + " and undo()", scene, y -> call.on(y) + " " + y.undo());
    }

    /** The least and the greatest number are taken; the next one beyond each of them, and numbers far off, are refused. */
    static void bounds(String what, int least, int greatest, Class<?> due, CallWith call) {
        Scene[] scenes = {LightReceiver::new, Scenes::busy};
        int[] beyond = {
            least - 1, greatest + 1, least - 256, greatest + 256, least + 65536, Integer.MIN_VALUE, Integer.MAX_VALUE
        };
        for (Scene scene : scenes) {
            for (int number : new int[] {least, greatest}) {
                String answer = Check.answer(scene.make(), x -> call.on(x, number));
                Check.same(what + " " + number + " throws", answer.startsWith("throws"), false);
            }
            for (int number : beyond) {
                refuses(what + " " + number, scene, due, x -> call.on(x, number));
            }
        }
    }

    private static Object tellTimeAndAddress(LightReceiver x) {
        return x.pass(1) + " " + x.setAddress(0);
    }

    private static Object tellRow(LightReceiver x) {
        return Check.answer(x, y -> y.receive(10)) + Check.lookAtState(x);
    }

    private static Object tellRowByOneTimeMore(LightReceiver x) {
        return Check.answer(x, y -> y.shine(4)) + tellRow(x);
    }

    private static Object tellSaves(LightReceiver x) {
        StringBuilder told = new StringBuilder();
        for (int left = x.savedStates(); left > 0; left--) {
            told.append(x.undo()).append(' ').append(Check.lookAtState(x)).append('\n');
        }
        return told.append(Check.answer(x, y -> y.undo())).append(tellTimeAndAddress(x));
    }

    private static Object tellBuffer(LightReceiver x) {
        return Check.answer(x, y -> y.run()) + Check.lookAtState(x) + " length " + x.clearText();
    }

    private static Object tellBufferByOnePartMore(LightReceiver x) {
        StringBuilder told = new StringBuilder();
        for (char sign : "91;g7".toCharArray()) {
            told.append(Check.answer(x, y -> y.append(sign))).append(' ').append(x.firstError()).append(' ');
        }
        return told.append(tellBuffer(x));
    }

    private static Object tellHolds(LightReceiver x) {
        return x.repeat(10) + " " + x.digest() + " " + x.repeat(10) + " " + x.digest();
    }
}
