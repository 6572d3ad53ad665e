import java.util.ArrayList;
import java.util.List;

/** The terms "Undo" and "Exceptions", promises 30 to 32, and how long an object is used, sentence by sentence. */
final class UndoEdges {
    private static final Class<?> STATE = IllegalStateException.class;
    private static final String SAVES = "Each method that is marked \"Undoable\" saves the state from before the call if it "
            + "does not throw an exception, even if nothing changes.";
    private static final Check.Call[] UNDOABLE = {
        x -> x.frame(0, 3, 1, 10), x -> x.repeat(10), x -> x.receive(10), x -> x.shine(4), x -> x.pass(1),
        x -> x.setGlare(0), x -> x.setAddress(0), x -> x.learn(0, 0), x -> x.run(),
    };
    private static final Check.Call[] NOT_UNDOABLE = {
        x -> x.glare(), x -> x.gain(), x -> x.action(0), x -> x.done(0), x -> x.remembered(), x -> x.holds(),
        x -> x.presses(), x -> x.refused(1), x -> x.row(), x -> x.received(), x -> x.hitShare(), x -> x.bit(0, 0, 0, 0),
        x -> x.ifFrame(0, 3, 1, 10), x -> x.leastStrength(), x -> x.refusalsToCome(), x -> x.ticksToForget(),
        x -> x.append('r'), x -> x.clearText(), x -> x.firstError(), x -> x.savedStates(), x -> x.digest(),
    };
    private static final Check.Call[] THROWING = {
        x -> x.frame(8, 0, 0, 10), x -> x.frame(0, 16, 0, 10), x -> x.frame(0, 0, 2, 10), x -> x.frame(0, 0, 0, 11),
        x -> x.repeat(0), x -> x.receive(0), x -> x.shine(0), x -> x.shine(41), x -> x.pass(0), x -> x.pass(100),
        x -> x.setGlare(10), x -> x.setAddress(8), x -> x.learn(16, 0), x -> x.learn(0, 3), x -> x.action(16),
        x -> x.done(16), x -> x.refused(0), x -> x.refused(7), x -> x.bit(0, 0, 0, 9), x -> x.ifFrame(8, 0, 0, 10),
        x -> x.append(32), x -> x.append(127), x -> x.run(),
    };

    static void tryAll() {
        none();
        stateIsEverything();
        savesEvenIfNothingChanges();
        savesNotWhatThrows();
        savesAtMostSix();
        discardsTheOldest();
        savesAndUndoesByTurns();
        throwingCallsChangeNothing();
        firstExceptionOfTwo();
        promise30Left();
        promise30NothingSaved();
        promise30IsNoUndoableCall();
        promise31ZeroToSix();
        promise32Start();
        promise32Values();
        promise32TellsStates();
        lastCallOf512();
    }

    private static void none() {
        Check.sentence("Terms", "The constants: `NONE = -1`: There is no such number.");
        Check.same("NONE", LightReceiver.NONE, -1);
        LightReceiver x = new LightReceiver();
        Check.same("no code", x.remembered(), LightReceiver.NONE);
        Check.same("no ticks", x.ticksToForget(), LightReceiver.NONE);
        Check.same("no time", x.pass(1), LightReceiver.NONE);
    }

    // ---- Undo

    private static void stateIsEverything() {
        Check.sentence("Undo", "The state consists of everything except the buffer and the saved states.");
        Check.Call[] changes = {
            x -> x.setGlare(9), x -> x.frame(5, 15, 0, 10), x -> x.frame(5, 3, 0, 10), x -> x.frame(5, 3, 1, 10),
            x -> x.frame(0, 3, 1, 10), x -> x.repeat(10), x -> x.repeat(1), x -> x.pass(99), x -> x.shine(40),
            x -> x.receive(10), x -> x.setAddress(0), x -> x.learn(3, 1), x -> x.learn(0, 2), x -> x.learn(15, 0),
        };
        for (int i = 0; i < changes.length; i++) {
            Check.Call change = changes[i];
            Scenes.isUndone("change " + i, Scenes::busyWithRoom, change);
            for (int j = 0; j < changes.length; j++) {
                Check.Call second = changes[j];
                Scenes.Scene roomy = () -> {
                    LightReceiver x = Scenes.busyWithRoom();
                    x.undo();
                    return x;
                };
                String what = "changes " + i + " and " + j + ", undone";
                Scenes.changesNothing(what, roomy, x -> {
                    Check.answer(x, change);
                    String secondAnswer = Check.answer(x, second);
                    if (!secondAnswer.startsWith("throws")) {
                        x.undo();
                    }
                    return x.undo();
                });
            }
        }
        LightReceiver x = new LightReceiver();
        x.append('r');
        x.pass(1);
        x.append(';');
        x.undo();
        Check.same("the buffer is no part of it", x.clearText(), 2);
    }

    private static void savesEvenIfNothingChanges() {
        Check.sentence("Undo", SAVES);
        for (int i = 0; i < UNDOABLE.length; i++) {
            LightReceiver x = new LightReceiver();
            Check.shineAll(x, 16, 4, 4);
            Check.type(x, "g0");
            String before = Check.lookAtState(x);
            UNDOABLE[i].on(x);
            Check.same("savedStates after call " + i, x.savedStates(), 4);
            Check.same("undo of call " + i, x.undo(), 3);
            Check.same("the state after it", Check.lookAtState(x), before);
        }
        for (int i = 0; i < NOT_UNDOABLE.length; i++) {
            LightReceiver x = new LightReceiver();
            NOT_UNDOABLE[i].on(x);
            Check.same("savedStates after the call " + i + " that is not marked", x.savedStates(), 0);
            LightReceiver full = Scenes.busy();
            NOT_UNDOABLE[i].on(full);
            Check.same("savedStates after it, full", full.savedStates(), 6);
            full.undo();
            Check.same("the state that was saved last", full.pass(1), 1);
        }
        LightReceiver x = new LightReceiver();
        x.pass(5);
        x.pass(5);
        Check.same("time before light", x.savedStates(), 2);
    }

    private static void savesNotWhatThrows() {
        Check.sentence("Undo", "saves the state from before the call if it does not throw an exception");
        for (int i = 0; i < THROWING.length; i++) {
            LightReceiver x = new LightReceiver();
            Check.same("call " + i, Check.answer(x, THROWING[i]).startsWith("throws"), true);
            Check.same("savedStates after call " + i, x.savedStates(), 0);
            LightReceiver one = new LightReceiver();
            one.setGlare(9);
            Check.answer(one, THROWING[i]);
            Check.same("savedStates after call " + i, one.savedStates(), 1);
            Check.same("undo after call " + i, one.undo(), 0);
            Check.same("glare after undo", one.glare(), 0);
        }
    }

    private static void savesAtMostSix() {
        Check.sentence("Undo", "At most 6 states are saved");
        LightReceiver x = new LightReceiver();
        for (int i = 1; i <= 20; i++) {
            x.pass(1);
            Check.same("savedStates after " + i, x.savedStates(), i <= 6 ? i : 6);
        }
        for (Check.Call call : UNDOABLE) {
            LightReceiver full = Scenes.busy();
            full.clearText();
            Check.type(full, "r");
            call.on(full);
            Check.same("savedStates, one more", full.savedStates(), 6);
        }
    }

    private static void discardsTheOldest() {
        Check.sentence("Undo", "when one more is saved, the oldest one is discarded");
        for (int calls = 1; calls <= 15; calls++) {
            LightReceiver x = new LightReceiver();
            for (int i = 1; i <= calls; i++) {
                x.frame(0, i, 0, 10);
            }
            int left = calls;
            for (int saved = Math.min(calls, 6); saved > 0; saved--) {
                left--;
                Check.same("undo of " + calls, x.undo(), saved - 1);
                Check.same("presses", x.presses(), left);
                Check.same("remembered", x.remembered(), left == 0 ? -1 : left);
            }
            Check.same("no state more", Check.answer(x, y -> y.undo()), "throws IllegalStateException");
            Check.same("presses", x.presses(), Math.max(calls - 6, 0));
        }
    }

    private static void savesAndUndoesByTurns() {
        Check.sentence("Undo", "At most 6 states are saved; when one more is saved, the oldest one is discarded.");
        List<Long> saved = new ArrayList<>();
        LightReceiver x = new LightReceiver();
        int[] runs = {7, -2, 1, -3, 6, -6, 9, -1, 2, -5, 4, -4, 3};
        for (int run : runs) {
            for (int i = 0; i < run; i++) {
                saved.add(x.digest());
                x.frame(0, saved.size() % 16, saved.size() / 3 % 2, 10);
                if (saved.size() > 6) {
                    saved.remove(0);
                }
            }
            for (int i = 0; i > run; i--) {
                Check.same("undo", x.undo(), saved.size() - 1);
                Check.same("the state", x.digest(), saved.remove(saved.size() - 1));
            }
            Check.same("savedStates", x.savedStates(), saved.size());
        }
    }

    // ---- Exceptions

    private static void throwingCallsChangeNothing() {
        Check.sentence("Exceptions", "A call that throws an exception changes nothing.");
        Scenes.Scene[] scenes = {
            LightReceiver::new, Scenes::busy, Scenes::busyWithRoom, Scenes::evenRow, Scenes::fullRow,
            () -> Scenes.typed("r;x")
        };
        for (Scenes.Scene scene : scenes) {
            for (int i = 0; i < THROWING.length; i++) {
                Check.same("call " + i, Check.answer(scene.make(), THROWING[i]).startsWith("throws"), true);
                Scenes.changesNothing("call " + i, scene, THROWING[i]);
            }
        }
    }

    private static void firstExceptionOfTwo() {
        Check.sentence("Exceptions", "If more than one exception applies to a call, the one that is listed first in its "
                + "throws clause is thrown.");
        isAnswer("receive", new LightReceiver(), x -> x.receive(0), "throws IllegalArgumentException");
        isAnswer("receive", new LightReceiver(), x -> x.receive(1), "throws IllegalStateException");
        isAnswer("receive", Scenes.busy(), x -> x.receive(11), "throws IllegalArgumentException");
        isAnswer("shine", Scenes.fullRow(), x -> x.shine(0), "throws IllegalArgumentException");
        isAnswer("shine", Scenes.fullRow(), x -> x.shine(41), "throws IllegalArgumentException");
        isAnswer("shine", Scenes.fullRow(), x -> x.shine(40), "throws IllegalStateException");
        isAnswer("learn", new LightReceiver(), x -> x.learn(16, 3), "throws IndexOutOfBoundsException");
        isAnswer("learn", new LightReceiver(), x -> x.learn(16, 2), "throws IndexOutOfBoundsException");
        isAnswer("learn", new LightReceiver(), x -> x.learn(15, 3), "throws IllegalArgumentException");
        isAnswer("append", Scenes.fullBuffer(), x -> x.append(127), "throws IllegalArgumentException");
        isAnswer("append", Scenes.fullBuffer(), x -> x.append(126), "throws IllegalStateException");
    }

    private static void isAnswer(String what, LightReceiver x, Check.Call call, String due) {
        Check.same(what, Check.answer(x, call), due);
    }

    // ---- promises 30 and 31

    private static void promise30Left() {
        Check.sentence("Promise 30", "Returns the number of saved states that are left.");
        LightReceiver x = new LightReceiver();
        for (int i = 0; i < 8; i++) {
            x.setGlare(i);
        }
        for (int left = 5; left >= 0; left--) {
            Check.same("undo", x.undo(), left);
            Check.same("glare", x.glare(), left + 1);
        }
        x.pass(1);
        Check.same("undo of the only one", x.undo(), 0);
    }

    private static void promise30NothingSaved() {
        Check.sentence("Promise 30", "IllegalStateException if no state is saved");
        Scenes.refuses("a new receiver", LightReceiver::new, STATE, x -> x.undo());
        Scenes.Scene emptied = () -> {
            LightReceiver x = Scenes.busy();
            while (x.savedStates() > 0) {
                x.undo();
            }
            return x;
        };
        Scenes.refuses("all undone", emptied, STATE, x -> x.undo());
        LightReceiver x = emptied.make();
        x.pass(1);
        Check.same("one saved again", x.undo(), 0);
        Check.same("and none", Check.answer(x, y -> y.undo()), "throws IllegalStateException");
    }

    private static void promise30IsNoUndoableCall() {
        Check.sentence("Promise 30", "Restores the state that was saved last, and removes it from the saved states.");
        LightReceiver x = new LightReceiver();
        x.setGlare(1);
        x.setGlare(2);
        x.undo();
        Check.same("glare", x.glare(), 1);
        x.undo();
        Check.same("undo is not undone", x.glare(), 0);
        Check.same("savedStates", x.savedStates(), 0);
        x.setGlare(3);
        x.undo();
        x.setGlare(4);
        Check.same("savedStates", x.savedStates(), 1);
        x.undo();
        Check.same("glare", x.glare(), 0);
    }

    private static void promise31ZeroToSix() {
        Check.sentence("Promise 31", "Returns the number of saved states, 0 to 6.");
        LightReceiver x = new LightReceiver();
        Check.same("none", x.savedStates(), 0);
        for (int i = 1; i <= 7; i++) {
            x.pass(1);
            Check.same("savedStates", x.savedStates(), Math.min(i, 6));
        }
        for (int left = 5; left >= 0; left--) {
            x.undo();
            Check.same("savedStates", x.savedStates(), left);
        }
        Check.same("undo", Check.answer(x, y -> y.undo()), "throws IllegalStateException");
        Check.same("none again", x.savedStates(), 0);
    }

    // ---- promise 32

    private static void promise32Start() {
        Check.sentence("Promise 32", "The hash starts at 8302.");
        long hash = 8302;
        for (int value : new int[] {0, 10, -1, 0, 0, 0, 0, 1, 0, -1}) {
            hash = 31 * hash + value;
        }
        for (int i = 0; i < 32 + 6; i++) {
            hash = 31 * hash;
        }
        Check.same("digest of a new receiver", new LightReceiver().digest(), hash);
    }

    private static void promise32Values() {
        Check.sentence("Promise 32", "For each value v of the following list, in order, the hash becomes 31 * hash + v, in "
                + "long arithmetic with overflow.");
        Scenes.Scene[] scenes = {
            LightReceiver::new, Scenes::busy, Scenes::fullRow, () -> Scenes.withGlareAndGain(9, 10),
            () -> Scenes.withGlareAndGain(9, 1)
        };
        for (Scenes.Scene scene : scenes) {
            LightReceiver x = scene.make();
            isDigest(x);
            x.learn(15, 2);
            x.learn(0, 1);
            x.setAddress(0);
            x.frame(0, 0, 1, 10);
            isDigest(x);
            x.frame(0, 15, 1, 10);
            x.repeat(10);
            x.repeat(10);
            x.repeat(10);
            x.pass(60);
            isDigest(x);
            x.pass(1);
            isDigest(x);
            x.repeat(10);
            x.frame(1, 15, 1, 10);
            isDigest(x);
        }
    }

    private static void isDigest(LightReceiver x) {
        Check.sentence("Promise 32", "The values are: what glare(), gain(), remembered(), holds(), presses(), row(), "
                + "received(), leastStrength(), refusalsToCome() and ticksToForget() return; for each code its action, and "
                + "how often it was done; how often light was refused for the reasons 1 to 6.");
        long[] first = {
            x.glare(), x.gain(), x.remembered(), x.holds(), x.presses(), x.row(), x.received(), x.leastStrength(),
            x.refusalsToCome(), x.ticksToForget()
        };
        long hash = 8302;
        for (long value : first) {
            hash = 31 * hash + value;
        }
        for (int code = 0; code < 16; code++) {
            hash = 31 * hash + x.action(code);
            hash = 31 * hash + x.done(code);
        }
        for (int reason = 1; reason <= 6; reason++) {
            hash = 31 * hash + x.refused(reason);
        }
        Check.same("digest", x.digest(), hash);
        Check.same("digest again", x.digest(), hash);
    }

    /** The list does not tell the light row's times, the toggle or the time of a forgotten frame. */
    private static void promise32TellsStates() {
        Check.sentence("Promise 32", "Returns the hash.");
        LightReceiver x = new LightReceiver();
        LightReceiver z = new LightReceiver();
        x.shine(1);
        z.shine(40);
        Check.same("rows of one time", x.digest(), z.digest());
        x.frame(0, 4, 1, 10);
        z.frame(0, 4, 0, 10);
        Check.same("frames of two toggles", x.digest(), z.digest());
        z.append('r');
        Check.same("the buffer", x.digest(), z.digest());
        z.pass(1);
        Check.same("another time", x.digest() == z.digest(), false);
        z.undo();
        Check.same("undone", x.digest(), z.digest());
    }

    // ---- What it is

    private static void lastCallOf512() {
        Check.sentence("What it is", "An object is used for at most 512 calls after it has been made");
        LightReceiver time = new LightReceiver();
        time.frame(0, 0, 0, 10);
        for (int i = 1; i <= 510; i++) {
            time.pass(99);
        }
        Check.same("pass", time.pass(99), 511 * 99);
        LightReceiver held = new LightReceiver();
        held.learn(15, 2);
        held.frame(0, 15, 0, 10);
        for (int i = 1; i <= 508; i++) {
            held.repeat(10);
        }
        Check.same("holds", held.holds(), 508);
        Check.same("done", held.done(15), 255);
        LightReceiver pressed = new LightReceiver();
        for (int i = 1; i <= 511; i++) {
            pressed.frame(0, 0, i % 2, 10);
        }
        Check.same("presses", pressed.presses(), 511);
        LightReceiver refused = new LightReceiver();
        for (int i = 1; i <= 510; i++) {
            refused.repeat(10);
        }
        Check.same("refused", refused.refused(6), 510);
        Check.same("hitShare", refused.hitShare(), 0.0);
        LightReceiver undone = new LightReceiver();
        for (int i = 1; i <= 255; i++) {
            undone.setGlare(9);
            Check.same("undo", undone.undo(), 0);
        }
        Check.same("the glare", undone.glare(), 0);
        Check.same("the last undo", Check.answer(undone, x -> x.undo()), "throws IllegalStateException");
    }
}
