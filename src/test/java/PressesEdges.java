/** The term "Presses, actions", sentence by sentence. */
final class PressesEdges {
    private static final String MEMORY = "The receiver remembers the last frame that it accepted (with its code and toggle), "
            + "unless more than 60 ticks have passed since the last light that it accepted (a frame or a repeat).";
    private static final String PRESS = "A frame that is accepted is a new press if no frame is remembered, or its code or "
            + "its toggle is another one than that of the remembered frame; otherwise it is a hold.";
    private static final String REPEATED = "if it is 2, it is also done at every second hold in a row (the second, the "
            + "fourth and so on since the press)";

    static void tryAll() {
        remembersSixtyTicks();
        remembersSinceLightThatWasAccepted();
        remembersNotSinceRefusedLight();
        forgetsForGood();
        remembersTheLastFrameOnly();
        pressOrHold();
        pressAfterItIsForgotten();
        repeatIsAHold();
        repeatOfNothing();
        actionsAtFirst();
        actionAtEachNewPress();
        actionAtEverySecondHold();
        holdsBeginAnew();
        holdsGoOnAfterRefusals();
        actionOfTheMoment();
    }

    private static LightReceiver pressed(int code, int toggle) {
        LightReceiver x = new LightReceiver();
        x.frame(0, code, toggle, 10);
        return x;
    }

    private static void remembersSixtyTicks() {
        Check.sentence("Presses, actions", MEMORY);
        for (int ticks = 1; ticks <= 99; ticks++) {
            boolean isRemembered = ticks <= 60;
            LightReceiver x = pressed(9, 1);
            x.pass(ticks);
            Check.same("remembered after " + ticks, x.remembered(), isRemembered ? 9 : -1);
            Check.same("repeat after " + ticks, x.repeat(10), isRemembered ? -1 : 6);
            x.undo();
            Check.same("frame after " + ticks, x.frame(0, 9, 1, 10), isRemembered ? -1 : 0);
            LightReceiver z = pressed(9, 1);
            for (int i = 0; i < ticks; i++) {
                z.pass(1);
            }
            Check.same("remembered after single " + ticks, z.remembered(), isRemembered ? 9 : -1);
        }
        LightReceiver y = pressed(0, 0);
        y.pass(30);
        y.pass(30);
        Check.same("after 30 and 30, frame", y.ifFrame(0, 0, 0, 10), -1);
        y.pass(1);
        Check.same("after 30, 30 and 1, frame", y.ifFrame(0, 0, 0, 10), 0);
    }

    private static void remembersSinceLightThatWasAccepted() {
        Check.sentence("Presses, actions", "since the last light that it accepted (a frame or a repeat)");
        LightReceiver x = pressed(4, 0);
        x.pass(60);
        Check.same("a repeat after 60", x.repeat(10), -1);
        x.pass(60);
        Check.same("a frame 60 after the repeat", x.frame(0, 4, 0, 10), -1);
        x.pass(60);
        Check.same("a repeat 60 after the hold", x.repeat(10), -1);
        x.pass(60);
        Check.same("another frame, 60 later", x.frame(0, 5, 0, 10), 0);
        x.pass(60);
        Check.same("remembered 60 after the other frame", x.remembered(), 5);
        x.pass(1);
        Check.same("remembered 61 after the other frame", x.remembered(), -1);
    }

    private static void remembersNotSinceRefusedLight() {
        Check.sentence("Presses, actions", "unless more than 60 ticks have passed since the last light that it accepted");
        int[][] refused = {
            {16}, {9, 4, 4}, {16, 7, 4}, Check.frameOf("000000001"), Check.frameOf("001000001")
        };
        for (int reason = 1; reason <= 5; reason++) {
            LightReceiver x = pressed(4, 0);
            x.pass(60);
            Check.shineAll(x, refused[reason - 1]);
            Check.same("refused light", x.receive(10), reason);
            Check.same("remembered at 60", x.remembered(), 4);
            Check.same("the time goes on", x.pass(1), 61);
            Check.same("remembered at 61", x.remembered(), -1);
        }
        LightReceiver x = pressed(4, 0);
        x.pass(61);
        Check.same("a refused repeat", x.repeat(10), 6);
        Check.same("the time goes on", x.pass(1), 62);
        Check.same("a repeat again", x.repeat(10), 6);
    }

    private static void forgetsForGood() {
        Check.sentence("Presses, actions", "unless more than 60 ticks have passed");
        LightReceiver x = pressed(4, 0);
        for (int i = 1; i <= 160; i++) {
            Check.same("time", x.pass(99), 99 * i);
            Check.same("remembered", x.remembered(), -1);
            Check.same("repeat", x.repeat(10), 6);
        }
        Check.same("the same frame after a long time", x.frame(0, 4, 0, 10), 0);
        Check.same("presses", x.presses(), 2);
    }

    private static void remembersTheLastFrameOnly() {
        Check.sentence("Presses, actions", "The receiver remembers the last frame that it accepted (with its code and "
                + "toggle)");
        LightReceiver x = pressed(4, 0);
        x.frame(0, 5, 1, 10);
        Check.same("the last one", x.remembered(), 5);
        Check.same("its frame", x.ifFrame(0, 5, 1, 10), -1);
        Check.same("its other toggle", x.ifFrame(0, 5, 0, 10), 0);
        Check.same("the one before", x.ifFrame(0, 4, 0, 10), 0);
        x.frame(1, 6, 0, 10);
        Check.same("one that was not accepted", x.remembered(), 5);
        x.repeat(10);
        Check.same("after a repeat", x.remembered(), 5);
        Check.same("its frame after a repeat", x.ifFrame(0, 5, 1, 10), -1);
        x.setAddress(2);
        Check.same("after another address", x.remembered(), 5);
        Check.same("its frame of another address", x.frame(2, 5, 1, 10), -1);
        Check.same("its repeat", x.repeat(10), -1);
    }

    private static void pressOrHold() {
        Check.sentence("Presses, actions", PRESS);
        for (int code = 0; code < 16; code++) {
            for (int toggle = 0; toggle < 2; toggle++) {
                for (int other = 0; other < 16; other++) {
                    LightReceiver x = new LightReceiver();
                    Check.same("the first frame", x.frame(0, code, toggle, 10), 0);
                    Check.same("other code", x.ifFrame(0, other, toggle, 10), code == other ? -1 : 0);
                    Check.same("other code and toggle", x.ifFrame(0, other, 1 - toggle, 10), 0);
                    Check.same("the same frame", x.frame(0, code, toggle, 10), -1);
                    Check.same("presses", x.presses(), 1);
                    Check.same("holds", x.holds(), 1);
                }
            }
        }
    }

    private static void pressAfterItIsForgotten() {
        Check.sentence("Presses, actions", "A frame that is accepted is a new press if no frame is remembered");
        LightReceiver x = new LightReceiver();
        Check.same("code 0, toggle 0 on a new receiver", x.frame(0, 0, 0, 10), 0);
        x.pass(61);
        Check.same("the same frame", x.frame(0, 0, 0, 10), 0);
        Check.same("presses", x.presses(), 2);
        Check.same("holds", x.holds(), 0);
        Check.same("and a hold", x.frame(0, 0, 0, 10), -1);
    }

    private static void repeatIsAHold() {
        Check.sentence("Presses, actions", "A repeat is a hold if a frame is remembered");
        LightReceiver x = pressed(15, 1);
        for (int i = 1; i <= 5; i++) {
            Check.same("repeat", x.repeat(10), -1);
            Check.same("holds", x.holds(), i);
        }
        Check.same("presses", x.presses(), 1);
        x.pass(60);
        Check.same("repeat after 60", x.repeat(10), -1);
    }

    private static void repeatOfNothing() {
        Check.sentence("Presses, actions", "otherwise the reason for its refusal is 6");
        LightReceiver x = new LightReceiver();
        Check.same("a repeat before any frame", x.repeat(10), 6);
        Check.same("a repeat again", x.repeat(10), 6);
        x.frame(1, 0, 0, 10);
        Check.same("a repeat after a refused frame", x.repeat(10), 6);
        Check.same("refused(6)", x.refused(6), 3);
        Check.same("holds", x.holds(), 0);
        Check.same("time", x.pass(1), -1);
        x.frame(0, 0, 0, 10);
        x.pass(61);
        Check.same("a repeat after 61", x.repeat(10), 6);
        Check.same("it renews nothing", x.remembered(), -1);
        Check.same("refused(6)", x.refused(6), 4);
    }

    private static void actionsAtFirst() {
        Check.sentence("Presses, actions", "Each code from 0 to 15 has an action, which is 0 (none, at first), 1 (once) or 2 "
                + "(repeated).");
        LightReceiver x = new LightReceiver();
        for (int code = 0; code < 16; code++) {
            Check.same("action at first", x.action(code), 0);
            x.frame(0, code, 0, 10);
            x.repeat(10);
            x.repeat(10);
            Check.same("done without an action", x.done(code), 0);
        }
        for (int code = 0; code < 16; code++) {
            x.learn(code, 1 + code % 2);
        }
        for (int code = 0; code < 16; code++) {
            x.frame(0, code, 1, 10);
            x.repeat(10);
            x.repeat(10);
            Check.same("done, code " + code, x.done(code), 1 + code % 2);
        }
    }

    private static void actionAtEachNewPress() {
        Check.sentence("Presses, actions", "The action of a code is done at each new press of this code, if it is not 0");
        for (int code : new int[] {0, 7, 15}) {
            for (int action = 0; action <= 2; action++) {
                LightReceiver x = new LightReceiver();
                x.learn(code, action);
                for (int press = 1; press <= 5; press++) {
                    x.frame(0, code, press % 2, 10);
                    Check.same("action " + action + ", press " + press, x.done(code), action == 0 ? 0 : press);
                }
                x.frame(1, code, 0, 10);
                x.frame(0, 8, 0, 10);
                for (int other = 0; other < 16; other++) {
                    int due = other == code && action != 0 ? 5 : 0;
                    Check.same("action " + action + ", done(" + other + ")", x.done(other), due);
                }
            }
        }
    }

    private static void actionAtEverySecondHold() {
        Check.sentence("Presses, actions", REPEATED);
        for (int code : new int[] {0, 7, 15}) {
            for (int action = 0; action <= 2; action++) {
                LightReceiver x = new LightReceiver();
                x.learn(code, action);
                x.frame(0, code, 1, 10);
                for (int hold = 1; hold <= 9; hold++) {
                    int answer = hold % 3 == 0 ? x.frame(0, code, 1, 10) : x.repeat(10);
                    Check.same("hold " + hold, answer, -1);
                    int due = action == 2 ? 1 + hold / 2 : action;
                    Check.same("action " + action + ", hold " + hold, x.done(code), due);
                }
            }
        }
    }

    private static void holdsBeginAnew() {
        Check.sentence("Presses, actions", "every second hold in a row (the second, the fourth and so on since the press)");
        LightReceiver x = new LightReceiver();
        x.learn(2, 2);
        x.learn(3, 2);
        x.frame(0, 2, 0, 10);
        x.repeat(10);
        x.frame(0, 2, 1, 10);
        x.repeat(10);
        Check.same("the first hold of another toggle", x.done(2), 2);
        x.frame(0, 3, 1, 10);
        x.repeat(10);
        Check.same("the first hold of another code", x.done(3), 1);
        x.repeat(10);
        Check.same("its second hold", x.done(3), 2);
        x.repeat(10);
        x.pass(61);
        x.frame(0, 3, 1, 10);
        Check.same("a press after it was forgotten", x.done(3), 3);
        x.repeat(10);
        Check.same("its first hold", x.done(3), 3);
        x.frame(0, 3, 1, 10);
        Check.same("its second hold, by a frame", x.done(3), 4);
        Check.same("holds", x.holds(), 2);
    }

    private static void holdsGoOnAfterRefusals() {
        Check.sentence("Presses, actions", "hold in a row");
        LightReceiver x = new LightReceiver();
        x.learn(2, 2);
        x.frame(0, 2, 0, 10);
        x.repeat(10);
        x.frame(6, 2, 0, 10);
        Check.shineAll(x, 1);
        x.receive(10);
        x.pass(60);
        Check.same("the second hold", x.repeat(10), -1);
        Check.same("holds", x.holds(), 2);
        Check.same("done", x.done(2), 2);
    }

    private static void actionOfTheMoment() {
        Check.sentence("Presses, actions", "The action of a code is done at each new press of this code");
        LightReceiver x = new LightReceiver();
        x.frame(0, 2, 0, 10);
        x.learn(2, 2);
        Check.same("learned after the press", x.done(2), 0);
        x.repeat(10);
        Check.same("the first hold", x.done(2), 0);
        x.repeat(10);
        Check.same("the second hold", x.done(2), 1);
        x.repeat(10);
        x.learn(2, 1);
        x.repeat(10);
        Check.same("the fourth hold of an action that is done once", x.done(2), 1);
        x.learn(2, 0);
        x.frame(0, 2, 1, 10);
        Check.same("a press without an action", x.done(2), 1);
        x.learn(2, 1);
        x.frame(0, 2, 0, 10);
        Check.same("a press with an action", x.done(2), 2);
    }
}
