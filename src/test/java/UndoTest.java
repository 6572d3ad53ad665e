/** Promises 30 to 32: undo, saved states, digest. */
final class UndoTest {
    private static final Class<?> STATE = IllegalStateException.class;

    public static void main(String[] args) {
        promise30Undo();
        promise30RestoresWhatCannotBeAsked();
        promise31SavedStates();
        promise32Digest();
        promise32DigestOfANewObject();
        objectsStandAlone();
        Check.end();
    }

    private static void promise30Undo() {
        LightReceiver x = new LightReceiver();
        Check.refuses("nothing is saved", x, STATE, y -> y.undo());
        String[] seen = new String[9];
        for (int i = 0; i < 9; i++) {
            seen[i] = Check.lookAtState(x);
            x.setGlare(i);
        }
        for (int i = 8; i >= 3; i--) {
            Check.same("undo", x.undo(), i - 3);
            Check.same("the state before call " + i, Check.lookAtState(x), seen[i]);
        }
        Check.refuses("the older ones are discarded", x, STATE, y -> y.undo());
        x.setGlare(9);
        x.frame(0, 0, 0, 10);
        Check.same("undo the frame", x.undo(), 1);
        x.pass(1);
        Check.same("undo the pass", x.undo(), 1);
        Check.same("undo the glare", x.undo(), 0);
        Check.same("glare", x.glare(), 2);
    }

    private static void promise30RestoresWhatCannotBeAsked() {
        LightReceiver x = new LightReceiver();
        Check.shineAll(x, 16, 4, 4);
        x.receive(10);
        Check.shineAll(x, 1, 1);
        x.undo();
        x.undo();
        x.undo();
        Check.same("the light row", x.receive(10), 6);
        x.undo();
        x.undo();
        x.shine(7);
        Check.same("the light row with another end", x.receive(10), 6);
        x.setAddress(4);
        x.setAddress(5);
        x.undo();
        Check.same("the address", x.setAddress(0), 4);
        x.frame(0, 3, 1, 10);
        x.frame(0, 3, 0, 10);
        x.undo();
        Check.same("the toggle", x.frame(0, 3, 1, 10), -1);
        x.pass(9);
        x.pass(9);
        x.undo();
        Check.same("the time", x.pass(1), 10);
        x.repeat(10);
        x.undo();
        Check.same("the time before the repeat", x.pass(1), 11);
        x.learn(3, 2);
        Check.isUndoable("a press with an action", x, y -> y.frame(0, 3, 0, 10));
        Check.isUndoable("a hold", x, y -> y.repeat(10));
        x.repeat(10);
        int doneBefore = x.done(3);
        Check.isUndoable("a second hold with an action", x, y -> y.repeat(10));
        Check.same("what was done", x.done(3), doneBefore);
        Check.type(x, "r");
        x.undo();
        Check.same("the buffer stays", x.clearText(), 1);
    }

    private static void promise31SavedStates() {
        LightReceiver x = new LightReceiver();
        for (int i = 1; i <= 10; i++) {
            x.repeat(10);
            Check.same("savedStates", x.savedStates(), Math.min(i, 6));
        }
        Check.type(x, "r");
        x.firstError();
        x.clearText();
        x.ifFrame(0, 0, 0, 10);
        x.digest();
        Check.same("these save nothing", x.savedStates(), 6);
        for (int i = 5; i >= 0; i--) {
            x.undo();
            Check.same("savedStates", x.savedStates(), i);
        }
        Check.same("received", x.received(), 4);
        Check.refuses("a call that throws", x, IllegalArgumentException.class, y -> y.frame(0, 0, 0, 11));
        Check.same("saves nothing", x.savedStates(), 0);
    }

    private static void promise32Digest() {
        LightReceiver x = new LightReceiver();
        isTheDigest(x);
        x.setGlare(6);
        isTheDigest(x);
        x.learn(0, 2);
        x.learn(15, 1);
        x.frame(0, 15, 0, 10);
        isTheDigest(x);
        x.frame(0, 15, 0, 10);
        isTheDigest(x);
        x.repeat(10);
        x.pass(7);
        Check.shineAll(x, 5, 5);
        isTheDigest(x);
        x.frame(3, 0, 0, 10);
        x.frame(0, 0, 1, 10);
        x.pass(70);
        x.repeat(10);
        isTheDigest(x);
        Check.changesNothing("digest", x, y -> y.digest());
        long before = x.digest();
        Check.type(x, "r;");
        Check.same("the buffer is no part of it", x.digest(), before);
    }

    private static void isTheDigest(LightReceiver x) {
        long[] first = {
            x.glare(), x.gain(), x.remembered(), x.holds(), x.presses(), x.row(), x.received(), x.leastStrength(),
            x.refusalsToCome(), x.ticksToForget()
        };
        long hash = 8302;
        for (long value : first) {
            hash = 31 * hash + value;
        }
        for (int code = 0; code < 16; code++) {
            hash = 31 * hash + x.action(code);
            hash = 31 * hash + x.done(code);
        }
        for (int reason = 1; reason <= 6; reason++) {
            hash = 31 * hash + x.refused(reason);
        }
        Check.same("digest", x.digest(), hash);
    }

    /** By hand: glare 0, gain 10, NONE, five zeros but for leastStrength 1, NONE at the end, 38 zeros. */
    private static void promise32DigestOfANewObject() {
        long hash = 8302;
        for (int value : new int[] {0, 10, -1, 0, 0, 0, 0, 1, 0, -1}) {
            hash = 31 * hash + value;
        }
        for (int i = 0; i < 38; i++) {
            hash = 31 * hash;
        }
        Check.same("digest of a new object", new LightReceiver().digest(), hash);
    }

    private static void objectsStandAlone() {
        LightReceiver x = new LightReceiver();
        LightReceiver z = new LightReceiver();
        String before = Check.look(z);
        x.setGlare(4);
        x.learn(3, 2);
        x.frame(0, 3, 0, 10);
        x.shine(3);
        Check.type(x, "x");
        Check.same("another object", Check.look(z), before);
    }
}
