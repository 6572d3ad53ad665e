/** Promises 1 to 6, and the terms that they use: light, glare, gain, decoding, presses, actions. */
final class LightTest {
    private static final Class<?> ARGUMENT = IllegalArgumentException.class;
    private static final Class<?> STATE = IllegalStateException.class;

    public static void main(String[] args) {
        promise1NewObject();
        promise2Frame();
        promise2WrongFrames();
        promise3Repeat();
        promise4Receive();
        promise4WhatIsMissed();
        promise4FirstReasonCounts();
        promise4WrongCalls();
        promise5Shine();
        promise6Pass();
        gainFollowsGlare();
        pressesAndHolds();
        actionsAreDone();
        Check.end();
    }

    private static void promise1NewObject() {
        LightReceiver x = new LightReceiver();
        Check.same("NONE", LightReceiver.NONE, -1);
        Check.same("new, glare", x.glare(), 0);
        Check.same("new, gain", x.gain(), 10);
        Check.same("new, remembered", x.remembered(), -1);
        Check.same("new, holds", x.holds(), 0);
        Check.same("new, presses", x.presses(), 0);
        Check.same("new, row", x.row(), 0);
        Check.same("new, received", x.received(), 0);
        Check.same("new, hitShare", x.hitShare(), 1.0);
        Check.same("new, leastStrength", x.leastStrength(), 1);
        Check.same("new, refusalsToCome", x.refusalsToCome(), 0);
        Check.same("new, ticksToForget", x.ticksToForget(), -1);
        Check.same("new, savedStates", x.savedStates(), 0);
        Check.same("new, firstError", x.firstError(), 0);
        Check.same("new, clearText", x.clearText(), 0);
        for (int code = 0; code < 16; code++) {
            Check.same("new, action", x.action(code), 0);
            Check.same("new, done", x.done(code), 0);
        }
        for (int reason = 1; reason <= 6; reason++) {
            Check.same("new, refused", x.refused(reason), 0);
        }
        Check.same("new, setAddress", x.setAddress(3), 0);
        Check.same("another new one, setAddress", new LightReceiver().setAddress(1), 0);
    }

    private static void promise2Frame() {
        LightReceiver x = new LightReceiver();
        Check.same("first frame", x.frame(0, 9, 1, 10), 0);
        Check.same("the same frame", x.frame(0, 9, 1, 10), -1);
        Check.same("another toggle", x.frame(0, 9, 0, 10), 0);
        Check.same("another code", x.frame(0, 8, 0, 10), 0);
        Check.same("another address", x.frame(3, 8, 0, 10), 5);
        Check.same("remembered after a refusal", x.remembered(), 8);
        Check.same("time after light", x.pass(1), 1);
        Check.isUndoable("frame", x, y -> y.frame(0, 1, 0, 10));
        Check.isUndoable("a refused frame", x, y -> y.frame(7, 1, 0, 10));
        for (int address = 0; address < 8; address++) {
            x.setAddress(address);
            for (int code = 0; code < 16; code++) {
                Check.same("frame", x.frame(address, code, code & 1, 1), 0);
                Check.same("its code", x.remembered(), code);
            }
        }
        LightReceiver glaring = new LightReceiver();
        glaring.setGlare(6);
        Check.same("no burst but the first is left", glaring.frame(0, 0, 0, 10), 1);
        LightReceiver bright = new LightReceiver();
        bright.setGlare(5);
        Check.same("bursts of 2 ticks", bright.frame(0, 5, 1, 10), 0);
        Check.same("the gain after it", bright.gain(), 5);
        Check.same("strength 5 with gain 5", bright.frame(0, 5, 0, 5), 1);
        Check.same("strength 6 is missed by gain 4 too", bright.frame(0, 5, 0, 6), 1);
        Check.same("the gain", bright.gain(), 3);
        Check.same("strength 8 is enough for gain 3", bright.frame(0, 5, 0, 8), 0);
    }

    private static void promise2WrongFrames() {
        for (int wrong : new int[] {-1, 8, Integer.MIN_VALUE, Integer.MAX_VALUE}) {
            Check.refuses("address " + wrong, afterAFrame(), ARGUMENT, y -> y.frame(wrong, 0, 0, 10));
        }
        for (int wrong : new int[] {-1, 16, Integer.MIN_VALUE, Integer.MAX_VALUE}) {
            Check.refuses("code " + wrong, afterAFrame(), ARGUMENT, y -> y.frame(0, wrong, 0, 10));
        }
        for (int wrong : new int[] {-1, 2, Integer.MIN_VALUE, Integer.MAX_VALUE}) {
            Check.refuses("toggle " + wrong, afterAFrame(), ARGUMENT, y -> y.frame(0, 0, wrong, 10));
        }
        for (int wrong : new int[] {-1, 0, 11, Integer.MIN_VALUE, Integer.MAX_VALUE}) {
            Check.refuses("strength " + wrong, afterAFrame(), ARGUMENT, y -> y.frame(0, 0, 0, wrong));
        }
    }

    private static LightReceiver afterAFrame() {
        LightReceiver x = new LightReceiver();
        x.frame(0, 2, 1, 9);
        return x;
    }

    private static void promise3Repeat() {
        LightReceiver x = new LightReceiver();
        Check.same("repeat of nothing", x.repeat(10), 6);
        x.frame(0, 4, 0, 10);
        Check.same("repeat", x.repeat(1), -1);
        Check.same("remembered", x.remembered(), 4);
        x.pass(60);
        Check.same("repeat after 60 ticks", x.repeat(10), -1);
        x.pass(61);
        Check.same("repeat after 61 ticks", x.repeat(10), 6);
        Check.same("presses", x.presses(), 1);
        x.frame(0, 4, 0, 10);
        Check.isUndoable("repeat", x, y -> y.repeat(10));
        Check.isUndoable("a refused repeat", new LightReceiver(), y -> y.repeat(10));
        x.setGlare(9);
        Check.same("the last burst is missed", x.repeat(10), 1);
        for (int wrong : new int[] {-1, 0, 11, Integer.MIN_VALUE, Integer.MAX_VALUE}) {
            Check.refuses("strength " + wrong, x, ARGUMENT, y -> y.repeat(wrong));
        }
        LightReceiver bright = new LightReceiver();
        bright.frame(0, 4, 0, 10);
        bright.setGlare(5);
        Check.same("a pause of 6 ticks and a burst of 2", bright.repeat(10), -1);
    }

    private static void promise4Receive() {
        LightReceiver x = new LightReceiver();
        Check.same("parity wrong", received(x, Check.frameOf("000010110")), "4");
        Check.same("parity right", received(x, Check.frameOf("000010111")), "0");
        Check.same("its code", x.remembered(), 5);
        Check.same("the row", x.row(), 0);
        Check.same("the same by frame()", x.frame(0, 5, 1, 10), -1);
        Check.same("address 1", received(x, Check.frameOf("001000001")), "5");
        Check.same("address 4", received(x, Check.frameOf("100000001")), "5");
        x.setAddress(4);
        Check.same("its own address 4", received(x, Check.frameOf("100000001")), "0");
        x.setAddress(0);
        int[] frame = Check.frameOf("000000000");
        frame[3] = 8;
        frame[1] = 40;
        frame[20] = 40;
        Check.same("a pause of 8 is a 0", received(x, frame), "-1");
        frame[3] = 9;
        frame[19] = 9;
        Check.same("a pause of 9 is a 1", received(x, frame), "5");
        Check.same("refused(5)", x.refused(5), 3);
        Check.shineAll(x, 16, 4, 4);
        Check.isUndoable("receive", x, y -> y.receive(10));
        Check.same("the row came back", x.row(), 3);
        Check.same("the light came back", x.receive(10), -1);
        Check.shineAll(x, 16, 4, 4);
        Check.same("the weakest light", x.receive(1), -1);
        x.setGlare(9);
        x.frame(0, 0, 0, 10);
        Check.shineAll(x, 16, 4, 4);
        Check.same("strength 1 with gain 9", x.receive(1), 1);
    }

    private static void promise4WhatIsMissed() {
        LightReceiver x = new LightReceiver();
        x.frame(0, 0, 0, 10);
        Check.same("missed in the middle", received(x, 16, 2, 1, 3, 4), "-1");
        Check.same("the gain after a missed burst", x.gain(), 9);
        Check.same("a longer pause", received(x, 16, 2, 1, 4, 4), "3");
        Check.same("two missed in the middle", received(x, 16, 1, 1, 1, 1, 1, 4), "-1");
        Check.same("two missed at the front", received(x, 1, 40, 1, 40, 16, 6, 4), "-1");
        Check.same("missed at the back", received(x, 16, 6, 4, 40, 1, 40, 1), "-1");
        Check.same("missed at both ends", received(x, 1, 1, 16, 6, 4, 1, 1), "-1");
        Check.same("everything missed", received(x, 1, 40, 1), "1");
        Check.same("the gain", x.gain(), 3);
        Check.same("bursts of 2 are heard", received(x, 10, 6, 2), "-1");
        Check.same("the gain, nothing missed", x.gain(), 4);
        Check.same("glare 4: shorter by 2, longer by 2", receivedInGlare(4, 12, 4, 4), "-1");
        Check.same("glare 4: a pause of 5 + 2", receivedInGlare(4, 12, 5, 4), "3");
        Check.same("glare 4: a burst of 11 - 2", receivedInGlare(4, 11, 4, 4), "2");
        Check.same("glare 3: 30 / 20 is rounded down", receivedInGlare(3, 11, 1, 3), "-1");
        Check.same("glare 1: 10 / 20 is rounded down", receivedInGlare(1, 10, 6, 2), "-1");
        Check.same("glare 6: 4 + 0 + 4, no burst is below 0", receivedInGlare(6, 16, 1, 1, 1, 8), "3");
        Check.same("glare 2: 2 + 0 + 2", receivedInGlare(2, 16, 1, 1, 1, 8), "-1");
        Check.same("glare 4: 3 + 0 + 3", receivedInGlare(4, 16, 1, 1, 1, 8), "-1");
        Check.same("glare 4: 3 + 0 + 4", receivedInGlare(4, 16, 1, 1, 2, 8), "3");
        Check.same("glare 2: a missed burst is as short as it was heard", receivedInGlare(2, 16, 1, 2, 2, 8), "-1");
        Check.same("glare 2: 3 + 1 + 3", receivedInGlare(2, 16, 2, 2, 2, 8), "3");
    }

    private static void promise4FirstReasonCounts() {
        for (int bursts = 1; bursts <= 15; bursts++) {
            LightReceiver x = new LightReceiver();
            for (int i = 0; i < 2 * bursts - 1; i++) {
                x.shine(9);
            }
            String due = bursts == 2 || bursts == 11 ? "2" : "1";
            Check.same(bursts + " bursts", Check.answer(x, y -> y.receive(10)), due);
            Check.same("refused(" + due + ")", x.refused(Integer.parseInt(due)), 1);
            Check.same("received", x.received(), 1);
        }
        LightReceiver x = new LightReceiver();
        Check.same("first burst of 9", received(x, 9, 4, 4), "2");
        Check.same("first burst of 10", received(x, 10, 4, 4), "6");
        Check.same("first burst of 20", received(x, 20, 4, 4), "6");
        Check.same("first burst of 21", received(x, 21, 4, 4), "2");
        Check.same("a pause of 6", received(x, 16, 6, 4), "6");
        Check.same("a pause of 7", received(x, 16, 7, 4), "3");
        Check.same("start before pause", received(x, 9, 7, 4), "2");
        int[] frame = Check.frameOf("111000000");
        Check.same("parity before address", received(x, frame), "4");
        frame[0] = 9;
        Check.same("start before parity", received(x, frame), "2");
        frame[0] = 21;
        Check.same("start before parity, too long", received(x, frame), "2");
        for (int address = 1; address < 8; address++) {
            Check.same("address " + address, x.frame(address, 0, 0, 10), 5);
        }
        Check.same("refused(5)", x.refused(5), 7);
        Check.same("refused(2)", x.refused(2), 5);
    }

    private static void promise4WrongCalls() {
        LightReceiver x = new LightReceiver();
        Check.refuses("an empty row", x, STATE, y -> y.receive(10));
        Check.refuses("strength 0 and an empty row", x, ARGUMENT, y -> y.receive(0));
        Check.shineAll(x, 16, 4);
        Check.refuses("a row of two", x, STATE, y -> y.receive(1));
        Check.refuses("strength 11 and a row of two", x, ARGUMENT, y -> y.receive(11));
        x.shine(4);
        for (int wrong : new int[] {-1, 0, 11, Integer.MIN_VALUE, Integer.MAX_VALUE}) {
            Check.refuses("strength " + wrong, x, ARGUMENT, y -> y.receive(wrong));
        }
        Check.same("the row is as it was", x.receive(10), 6);
    }

    private static void promise5Shine() {
        LightReceiver x = new LightReceiver();
        for (int i = 1; i <= 30; i++) {
            Check.same("shine", x.shine(i % 2 == 0 ? 1 : 40), i);
            Check.same("row", x.row(), i);
            if (i == 29) {
                Check.isUndoable("shine", x, y -> y.shine(5));
                Check.isUndoable("receive of 29 times", x, y -> y.receive(10));
            }
        }
        Check.refuses("a full row", x, STATE, y -> y.shine(1));
        Check.refuses("a full row of 30 is not received", x, STATE, y -> y.receive(10));
        for (int wrong : new int[] {-1, 0, 41, Integer.MIN_VALUE, Integer.MAX_VALUE}) {
            Check.refuses("ticks " + wrong + " and a full row", x, ARGUMENT, y -> y.shine(wrong));
            Check.refuses("ticks " + wrong, new LightReceiver(), ARGUMENT, y -> y.shine(wrong));
        }
    }

    private static void promise6Pass() {
        LightReceiver x = new LightReceiver();
        Check.same("no light yet", x.pass(99), -1);
        x.repeat(10);
        Check.same("none was accepted", x.pass(1), -1);
        x.frame(0, 0, 0, 10);
        Check.same("1 tick", x.pass(1), 1);
        Check.same("99 ticks more", x.pass(99), 100);
        x.repeat(10);
        x.frame(1, 0, 0, 10);
        Check.same("refused light does not count", x.pass(2), 102);
        x.frame(0, 0, 0, 10);
        Check.same("a frame counts", x.pass(60), 60);
        x.repeat(10);
        Check.same("a repeat counts", x.pass(3), 3);
        Check.isUndoable("pass", x, y -> y.pass(58));
        Check.same("undone time", x.pass(4), 7);
        Check.isUndoable("pass before light", new LightReceiver(), y -> y.pass(5));
        for (int wrong : new int[] {-1, 0, 100, Integer.MIN_VALUE, Integer.MAX_VALUE}) {
            Check.refuses("ticks " + wrong, x, ARGUMENT, y -> y.pass(wrong));
        }
        for (int i = 0; i < 200; i++) {
            Check.same("much time", x.pass(99), 7 + 99 * (i + 1));
        }
    }

    private static void gainFollowsGlare() {
        LightReceiver x = new LightReceiver();
        x.setGlare(9);
        for (int due : new int[] {9, 8, 7, 6, 1, 1}) {
            x.frame(0, 0, 0, 10);
            Check.same("gain, glare 9", x.gain(), due);
        }
        x.frame(0, 0, 0, 9);
        Check.same("gain does not fall below 1", x.gain(), 1);
        x.setGlare(2);
        for (int due : new int[] {2, 3, 4, 5, 6, 7, 8, 8}) {
            x.frame(1, 0, 0, 10);
            Check.same("gain, glare 2", x.gain(), due);
        }
        x.setGlare(0);
        for (int due : new int[] {9, 10, 10}) {
            x.repeat(10);
            Check.same("gain, glare 0", x.gain(), due);
        }
        x.setGlare(3);
        x.repeat(10);
        Check.same("gain falls to 10 - glare at once", x.gain(), 7);
    }

    private static void pressesAndHolds() {
        LightReceiver x = new LightReceiver();
        x.frame(0, 1, 0, 10);
        x.repeat(10);
        x.frame(0, 1, 0, 10);
        Check.same("holds", x.holds(), 2);
        x.frame(2, 1, 1, 10);
        x.frame(0, 1, 0, 10);
        Check.same("holds go on after a refusal", x.holds(), 3);
        x.frame(0, 1, 1, 10);
        Check.same("holds of the new press", x.holds(), 0);
        x.repeat(10);
        x.pass(61);
        Check.same("holds, forgotten", x.holds(), 0);
        Check.same("the same frame, forgotten", x.frame(0, 1, 1, 10), 0);
        Check.same("presses", x.presses(), 3);
        x.pass(60);
        Check.same("the same frame after 60 ticks", x.frame(0, 1, 1, 10), -1);
        x.setAddress(5);
        Check.same("a frame of the new address", x.frame(5, 1, 1, 10), -1);
    }

    private static void actionsAreDone() {
        LightReceiver x = new LightReceiver();
        x.learn(1, 1);
        x.learn(2, 2);
        int[] once = {1, 1, 1, 1, 1, 1};
        int[] repeated = {1, 1, 2, 2, 3, 3};
        for (int i = 0; i < 6; i++) {
            x.frame(0, 1, 0, 10);
            Check.same("done(1) at hold " + i, x.done(1), once[i]);
        }
        for (int i = 0; i < 6; i++) {
            Check.same("hold " + i, i % 2 == 0 ? x.frame(0, 2, 0, 10) : x.repeat(10), i == 0 ? 0 : -1);
            Check.same("done(2) at hold " + i, x.done(2), repeated[i]);
        }
        x.frame(0, 3, 0, 10);
        x.repeat(10);
        x.repeat(10);
        Check.same("done(3), no action", x.done(3), 0);
        x.frame(0, 2, 0, 10);
        Check.same("done(2), one press more", x.done(2), 4);
        x.repeat(10);
        x.frame(6, 2, 0, 10);
        x.repeat(10);
        Check.same("done(2), second hold", x.done(2), 5);
        x.learn(2, 1);
        x.repeat(10);
        x.repeat(10);
        Check.same("done(2), fourth hold, learned anew", x.done(2), 5);
        x.learn(2, 2);
        x.repeat(10);
        x.repeat(10);
        Check.same("done(2), sixth hold, learned anew", x.done(2), 6);
        x.learn(2, 0);
        x.frame(0, 2, 1, 10);
        Check.same("done(2), unlearned", x.done(2), 6);
    }

    /** What the times are answered with by gain 10, when the glare has come after a frame. */
    private static String receivedInGlare(int glare, int... times) {
        LightReceiver x = new LightReceiver();
        x.frame(0, 0, 0, 10);
        x.setGlare(glare);
        return received(x, times);
    }

    private static String received(LightReceiver x, int... times) {
        Check.shineAll(x, times);
        return Check.answer(x, y -> y.receive(10));
    }
}
