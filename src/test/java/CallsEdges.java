/** Promises 1 to 9, sentence by sentence: least and greatest arguments, what is answered, what is refused. */
final class CallsEdges {
    private static final Class<?> ARGUMENT = IllegalArgumentException.class;
    private static final Class<?> STATE = IllegalStateException.class;
    private static final Class<?> INDEX = IndexOutOfBoundsException.class;

    static void tryAll() {
        promise1NewReceiver();
        promise2Arguments();
        promise2WrongArguments();
        promise2Answers();
        promise2NoTime();
        promise2Undoable();
        promise3Strength();
        promise3Answers();
        promise3Undoable();
        promise4Strength();
        promise4OddRows();
        promise4EmptiesTheRow();
        promise4Answers();
        promise4Undoable();
        promise5Ticks();
        promise5FullRow();
        promise5ByTurns();
        promise5Count();
        promise5Undoable();
        promise6Ticks();
        promise6Answers();
        promise6Undoable();
        promise7Glare();
        promise7GainStays();
        promise7Previous();
        promise8Address();
        promise8Previous();
        promise9Code();
        promise9Action();
        promise9Previous();
    }

    // ---- promise 1

    private static void promise1NewReceiver() {
        Check.sentence("Promise 1", "Creates a receiver that has not got any light.");
        LightReceiver x = new LightReceiver();
        Check.same("received", x.received(), 0);
        Check.same("presses", x.presses(), 0);
        Check.same("row", x.row(), 0);
        Check.same("remembered", x.remembered(), LightReceiver.NONE);
        Check.same("savedStates", x.savedStates(), 0);
        Check.same("time", x.pass(1), LightReceiver.NONE);
        Scenes.busy();
        Check.same("a new one after a busy one", Scenes.trace(LightReceiver::new), Scenes.trace(LightReceiver::new));
        Check.same("its received", new LightReceiver().received(), 0);
    }

    // ---- promise 2

    private static void promise2Arguments() {
        Check.sentence("Promise 2", "address: 0 to 7");
        Scenes.bounds("address", 0, 7, ARGUMENT, (x, address) -> x.frame(address, 3, 1, 10));
        Check.sentence("Promise 2", "code: 0 to 15");
        Scenes.bounds("code", 0, 15, ARGUMENT, (x, code) -> x.frame(0, code, 1, 10));
        Check.sentence("Promise 2", "toggle: 0 or 1");
        Scenes.bounds("toggle", 0, 1, ARGUMENT, (x, toggle) -> x.frame(0, 3, toggle, 10));
        Check.sentence("Promise 2", "strength: 1 to 10");
        Scenes.bounds("strength", 1, 10, ARGUMENT, (x, strength) -> x.frame(0, 3, 1, strength));
    }

    private static void promise2WrongArguments() {
        Check.sentence("Promise 2", "IllegalArgumentException if an argument is out of range");
        Scenes.refuses("all wrong", Scenes::busy, ARGUMENT, x -> x.frame(8, 16, 2, 11));
        Scenes.refuses("all below", Scenes::busy, ARGUMENT, x -> x.frame(-1, -1, -1, 0));
        Scenes.refuses("a bit of the code in the toggle", Scenes::busy, ARGUMENT, x -> x.frame(0, 3, 3, 10));
        Scenes.refuses("full row", Scenes::fullRow, ARGUMENT, x -> x.frame(0, 3, 1, 0));
    }

    private static void promise2Answers() {
        Check.sentence("Promise 2", "Returns 0 if it is a new press, NONE if it is a hold, otherwise the reason for its "
                + "refusal, 1 to 5.");
        LightReceiver x = new LightReceiver();
        Check.same("a press", x.frame(0, 15, 1, 1), 0);
        Check.same("a hold", x.frame(0, 15, 1, 1), LightReceiver.NONE);
        Check.same("another address", x.frame(7, 15, 1, 10), 5);
        x.setGlare(9);
        Check.same("glare 9, gain 10: 90 / 20", x.frame(0, 15, 1, 10), 1);
        Check.same("glare 9, gain 9, another address", x.frame(7, 15, 1, 10), 1);
        x.setGlare(6);
        Check.same("glare 6, gain 8: 48 / 20", x.frame(0, 15, 1, 10), LightReceiver.NONE);
        Check.same("presses", x.presses(), 1);
        Check.same("holds", x.holds(), 2);
        Check.same("refused(1)", x.refused(1), 2);
        Check.same("refused(5)", x.refused(5), 1);
        Check.same("received", x.received(), 6);
    }

    private static void promise2NoTime() {
        Check.sentence("Promise 2", "(The ticks of the light itself do not count as time that passes.)");
        LightReceiver x = new LightReceiver();
        x.frame(0, 15, 1, 10);
        Check.same("right after a frame", x.ticksToForget(), 61);
        Check.same("time", x.pass(60), 60);
        for (int i = 0; i < 20; i++) {
            x.frame(7, 15, 1, 10);
        }
        Check.same("after refused frames", x.ticksToForget(), 1);
        Check.same("a hold", x.frame(0, 15, 1, 10), -1);
        Check.same("right after a hold", x.ticksToForget(), 61);
        x.repeat(10);
        Check.same("right after a repeat", x.ticksToForget(), 61);
        Check.shineAll(x, 16, 4, 40);
        Check.same("times that are collected", x.ticksToForget(), 61);
        x.pass(59);
        x.receive(10);
        Check.same("right after light of the row", x.pass(1), 1);
    }

    private static void promise2Undoable() {
        Check.sentence("Promise 2", "Undoable.");
        Scenes.isUndone("a press", LightReceiver::new, x -> x.frame(0, 3, 0, 10));
        Scenes.isUndone("a press", Scenes::busyWithRoom, x -> x.frame(5, 3, 0, 10));
        Scenes.isUndone("a press of another code", Scenes::busyWithRoom, x -> x.frame(5, 15, 1, 10));
        Scenes.isUndone("a hold", Scenes::busyWithRoom, x -> x.frame(5, 3, 1, 10));
        Scenes.isUndone("a refused frame", Scenes::busyWithRoom, x -> x.frame(0, 3, 1, 10));
        Scenes.isUndone("a missed frame", Scenes::busyWithRoom, x -> x.frame(5, 3, 1, 1));
    }

    // ---- promise 3

    private static void promise3Strength() {
        Check.sentence("Promise 3", "strength: 1 to 10");
        Scenes.bounds("strength", 1, 10, ARGUMENT, (x, strength) -> x.repeat(strength));
        Check.sentence("Promise 3", "IllegalArgumentException if strength is out of range");
        Scenes.refuses("strength 0", Scenes::fullRow, ARGUMENT, x -> x.repeat(0));
        Scenes.refuses("strength 11", Scenes::fullBuffer, ARGUMENT, x -> x.repeat(11));
    }

    private static void promise3Answers() {
        Check.sentence("Promise 3", "Returns NONE if it is a hold, otherwise the reason for its refusal.");
        LightReceiver x = new LightReceiver();
        Check.same("nothing remembered", x.repeat(1), 6);
        x.frame(0, 3, 0, 10);
        Check.same("a hold of the least strength", x.repeat(1), LightReceiver.NONE);
        x.setGlare(6);
        Check.same("a burst is missed", x.repeat(10), 1);
        Check.same("all are missed, nothing else", x.repeat(1), 1);
        Check.same("glare 6, gain 8", x.repeat(3), LightReceiver.NONE);
        Check.same("refused(1)", x.refused(1), 2);
        Check.same("refused(6)", x.refused(6), 1);
        Check.same("holds", x.holds(), 2);
    }

    private static void promise3Undoable() {
        Check.sentence("Promise 3", "A repeat is sent and received. Undoable.");
        Scenes.isUndone("a refused repeat", LightReceiver::new, x -> x.repeat(10));
        Scenes.isUndone("a hold with an action", Scenes::busyWithRoom, x -> x.repeat(10));
        Scenes.isUndone("a missed repeat", Scenes::busyWithRoom, x -> x.repeat(1));
    }

    // ---- promise 4

    private static void promise4Strength() {
        Check.sentence("Promise 4", "strength: 1 to 10");
        for (int strength : new int[] {1, 10}) {
            LightReceiver x = new LightReceiver();
            Check.shineAll(x, 16, 4, 4);
            Check.same("strength " + strength, x.receive(strength), 6);
        }
        for (int wrong : new int[] {0, 11, -1, 256, Integer.MIN_VALUE, Integer.MAX_VALUE}) {
            Check.sentence("Promise 4", "IllegalArgumentException if strength is out of range");
            Scenes.refuses("strength " + wrong, Scenes::busy, ARGUMENT, x -> x.receive(wrong));
            Check.sentence("Exceptions", "If more than one exception applies to a call, the one that is listed first in its "
                    + "throws clause is thrown.");
            Scenes.refuses("strength " + wrong + ", empty row", LightReceiver::new, ARGUMENT, x -> x.receive(wrong));
            Scenes.refuses("strength " + wrong + ", even row", Scenes::evenRow, ARGUMENT, x -> x.receive(wrong));
            Scenes.refuses("strength " + wrong + ", full row", Scenes::fullRow, ARGUMENT, x -> x.receive(wrong));
        }
    }

    private static void promise4OddRows() {
        Check.sentence("Promise 4", "IllegalStateException if the light row has an even number of times (it does not begin "
                + "and end with a burst then)");
        LightReceiver x = new LightReceiver();
        for (int times = 0; times <= 30; times++) {
            Check.same("row", x.row(), times);
            String answer = Check.answer(x, y -> y.receive(10));
            if (times % 2 == 0) {
                Check.same("receive of " + times, answer, "throws IllegalStateException");
            } else {
                Check.same("receive of " + times, answer, times == 3 ? "6" : times == 21 ? "0" : "1");
                x.undo();
            }
            if (times < 30) {
                x.shine(times == 0 ? 16 : 4);
            }
        }
        Scenes.refuses("an empty row", LightReceiver::new, STATE, y -> y.receive(10));
        Scenes.refuses("an even row", Scenes::evenRow, STATE, y -> y.receive(10));
        Scenes.refuses("a full row", Scenes::fullRow, STATE, y -> y.receive(1));
    }

    private static void promise4EmptiesTheRow() {
        Check.sentence("Promise 4", "Light is received that was collected in the light row; the row is empty then.");
        LightReceiver x = new LightReceiver();
        Check.shineAll(x, 16, 4, 4);
        Check.same("received", x.receive(10), 6);
        Check.same("row", x.row(), 0);
        Check.same("nothing to receive", Check.answer(x, y -> y.receive(10)), "throws IllegalStateException");
        Check.same("the first time of another light", x.shine(40), 1);
        Check.same("one burst", x.receive(10), 1);
        Check.same("row after refused light", x.row(), 0);
        Check.shineAll(x, Check.frameOf("000000000"));
        Check.same("a frame", x.receive(10), 0);
        Check.same("row after a press", x.row(), 0);
        while (x.row() < 29) {
            x.shine(1);
        }
        Check.same("the longest light", x.receive(10), 1);
        Check.same("row after the longest light", x.row(), 0);
        Check.shineAll(x, 16, 4);
        x.frame(0, 5, 0, 10);
        x.repeat(10);
        Check.same("the row beside other light", x.row(), 2);
        x.shine(4);
        Check.same("the light of the row", x.receive(10), -1);
    }

    private static void promise4Answers() {
        Check.sentence("Promise 4", "Returns 0 if it is a new press, NONE if it is a hold, otherwise the reason for its "
                + "refusal.");
        int[][] lights = {
            {16}, {9, 4, 4}, {16, 7, 4}, Check.frameOf("000000001"), Check.frameOf("001000001"), {16, 6, 4}
        };
        LightReceiver x = new LightReceiver();
        for (int reason = 1; reason <= 6; reason++) {
            Check.shineAll(x, lights[reason - 1]);
            Check.same("refused light", x.receive(10), reason);
            Check.same("refused", x.refused(reason), 1);
        }
        Check.shineAll(x, Check.frameOf("000111111"));
        Check.same("a press", x.receive(10), 0);
        Check.shineAll(x, Check.frameOf("000111111"));
        Check.same("a hold by a frame", x.receive(10), LightReceiver.NONE);
        Check.shineAll(x, 16, 6, 4);
        Check.same("a hold by a repeat", x.receive(10), LightReceiver.NONE);
        Check.same("received", x.received(), 9);
        Check.same("presses", x.presses(), 1);
        Check.same("holds", x.holds(), 2);
    }

    private static void promise4Undoable() {
        Check.sentence("Promise 4", "Undoable.");
        Scenes.isUndone("a repeat of the row", Scenes::busyWithRoom, x -> x.receive(10));
        Scenes.isUndone("a missed light", Scenes::busyWithRoom, x -> x.receive(1));
        LightReceiver x = new LightReceiver();
        Check.shineAll(x, 16, 4, 4);
        x.receive(10);
        Check.shineAll(x, 9, 40);
        x.undo();
        x.undo();
        Check.same("states left", x.undo(), 3);
        Check.same("the row that was received", x.row(), 3);
        Check.same("its light", x.receive(10), 6);
    }

    // ---- promise 5

    private static void promise5Ticks() {
        Check.sentence("Promise 5", "ticks: 1 to 40");
        Scenes.bounds("ticks", 1, 40, ARGUMENT, (x, ticks) -> x.shine(ticks));
        LightReceiver x = new LightReceiver();
        Check.shineAll(x, 20, 1, 40);
        Check.same("a burst of 40, a pause of 1", x.receive(10), 6);
        Check.shineAll(x, 1, 40, 16, 6, 4);
        Check.same("a burst of 1, a pause of 40", x.receive(10), 6);
        Check.sentence("Promise 5", "IllegalArgumentException if ticks is out of range");
        for (int wrong : new int[] {0, 41, -1, Integer.MIN_VALUE, Integer.MAX_VALUE}) {
            Scenes.refuses("ticks " + wrong, Scenes::evenRow, ARGUMENT, y -> y.shine(wrong));
        }
    }

    private static void promise5FullRow() {
        Check.sentence("Promise 5", "IllegalStateException if the light row has 30 times");
        LightReceiver x = new LightReceiver();
        for (int times = 1; times <= 30; times++) {
            Check.same("shine", x.shine(4), times);
        }
        Check.same("the 31st time", Check.answer(x, y -> y.shine(4)), "throws IllegalStateException");
        Check.same("row", x.row(), 30);
        Check.same("undo of the 30th", x.undo(), 5);
        Check.same("row", x.row(), 29);
        Check.same("the 30th time again", x.shine(4), 30);
        Check.same("the 31st time again", Check.answer(x, y -> y.shine(4)), "throws IllegalStateException");
        x.undo();
        x.receive(10);
        Check.same("the first time after it was received", x.shine(4), 1);
        for (int ticks : new int[] {1, 40}) {
            Scenes.refuses("a full row, " + ticks, Scenes::fullRow, STATE, y -> y.shine(ticks));
        }
        Check.sentence("Exceptions", "the one that is listed first in its throws clause is thrown");
        for (int wrong : new int[] {0, 41, Integer.MIN_VALUE, Integer.MAX_VALUE}) {
            Scenes.refuses("a full row and ticks " + wrong, Scenes::fullRow, ARGUMENT, y -> y.shine(wrong));
        }
    }

    private static void promise5ByTurns() {
        Check.sentence("Promise 5", "Adds a time to the light row: a burst, a pause, a burst, and so on by turns.");
        LightReceiver x = new LightReceiver();
        Check.shineAll(x, 20, 6, 2);
        Check.same("burst 20, pause 6, burst 2", x.receive(10), 6);
        Check.shineAll(x, 6, 20, 2);
        Check.same("burst 6, pause 20, burst 2", x.receive(10), 2);
        Check.shineAll(x, Check.frameOf("000110010"));
        Check.same("a frame with three ones", x.receive(10), 4);
        Check.shineAll(x, Check.frameOf("000110011"));
        Check.same("a frame with four ones", x.receive(10), 0);
        Check.same("its code", x.remembered(), 12);
    }

    private static void promise5Count() {
        Check.sentence("Promise 5", "Returns the number of times in the light row.");
        LightReceiver x = new LightReceiver();
        for (int times = 1; times <= 30; times++) {
            Check.same("shine", x.shine(times), times);
            Check.same("row", x.row(), times);
        }
    }

    private static void promise5Undoable() {
        Check.sentence("Promise 5", "Undoable.");
        Scenes.isUndone("the first time", LightReceiver::new, x -> x.shine(1));
        Scenes.isUndone("one time more", Scenes::busyWithRoom, x -> x.shine(40));
        LightReceiver x = new LightReceiver();
        Check.shineAll(x, 16, 9, 4);
        x.undo();
        x.undo();
        Check.shineAll(x, 6, 4);
        Check.same("another time in place of one that was undone", x.receive(10), 6);
    }

    // ---- promise 6

    private static void promise6Ticks() {
        Check.sentence("Promise 6", "ticks: 1 to 99");
        Scenes.bounds("ticks", 1, 99, ARGUMENT, (x, ticks) -> x.pass(ticks));
        LightReceiver x = new LightReceiver();
        x.frame(0, 0, 0, 10);
        Check.same("the least", x.pass(1), 1);
        Check.same("the greatest", x.pass(99), 100);
        Check.sentence("Promise 6", "IllegalArgumentException if ticks is out of range");
        Scenes.refuses("ticks 0", Scenes::fullRow, ARGUMENT, y -> y.pass(0));
        Scenes.refuses("ticks 100", Scenes::fullRow, ARGUMENT, y -> y.pass(100));
    }

    private static void promise6Answers() {
        Check.sentence("Promise 6", "Returns the number of ticks since the last light that was accepted; NONE if none was.");
        LightReceiver x = new LightReceiver();
        Check.same("no light", x.pass(99), LightReceiver.NONE);
        x.repeat(10);
        x.frame(1, 0, 0, 10);
        Check.same("refused light", x.pass(1), LightReceiver.NONE);
        x.frame(0, 0, 0, 10);
        Check.same("since a frame", x.pass(60), 60);
        Check.same("since a frame, forgotten", x.pass(1), 61);
        Check.same("long since a frame", x.pass(99), 160);
        x.repeat(10);
        Check.same("a refused repeat does not count", x.pass(1), 161);
        x.frame(0, 0, 0, 10);
        Check.same("since a frame", x.pass(2), 2);
        x.frame(0, 0, 0, 10);
        Check.same("since a hold", x.pass(3), 3);
        x.repeat(10);
        Check.same("since a repeat", x.pass(4), 4);
        for (int i = 1; i <= 300; i++) {
            Check.same("more time", x.pass(99), 4 + 99 * i);
        }
    }

    private static void promise6Undoable() {
        Check.sentence("Promise 6", "Lets ticks pass. Undoable.");
        Scenes.isUndone("time before light", LightReceiver::new, x -> x.pass(99));
        Scenes.isUndone("time", Scenes::busyWithRoom, x -> x.pass(1));
        Scenes.isUndone("time in which a frame is forgotten", Scenes::busyWithRoom, x -> x.pass(54));
        Scenes.isUndone("much time", Scenes::busyWithRoom, x -> x.pass(99));
    }

    // ---- promises 7 to 9

    private static void promise7Glare() {
        Check.sentence("Promise 7", "glare: 0 to 9");
        Scenes.bounds("glare", 0, 9, ARGUMENT, (x, glare) -> x.setGlare(glare));
        Check.sentence("Promise 7", "IllegalArgumentException if glare is out of range");
        Scenes.refuses("glare -1", Scenes::fullRow, ARGUMENT, x -> x.setGlare(-1));
        Scenes.refuses("glare 10", Scenes::fullRow, ARGUMENT, x -> x.setGlare(10));
    }

    private static void promise7GainStays() {
        Check.sentence("Promise 7", "The gain stays (also above 10 - glare). Undoable.");
        for (int gain = 1; gain <= 10; gain++) {
            for (int glare = 0; glare <= 9; glare++) {
                LightReceiver x = Scenes.withGlareAndGain(9 - glare, gain);
                x.setGlare(glare);
                Check.same("gain in glare " + glare, x.gain(), gain);
            }
        }
        Scenes.isUndone("the greatest glare", LightReceiver::new, x -> x.setGlare(9));
        Scenes.isUndone("the same glare", LightReceiver::new, x -> x.setGlare(0));
        Scenes.isUndone("no glare", Scenes::busyWithRoom, x -> x.setGlare(0));
        Scenes.isUndone("the same glare", Scenes::busyWithRoom, x -> x.setGlare(2));
    }

    private static void promise7Previous() {
        Check.sentence("Promise 7", "Returns the previous glare.");
        LightReceiver x = new LightReceiver();
        int previous = 0;
        for (int glare : new int[] {9, 9, 0, 0, 5, 1, 8}) {
            Check.same("setGlare", x.setGlare(glare), previous);
            Check.same("glare", x.glare(), glare);
            previous = glare;
        }
    }

    private static void promise8Address() {
        Check.sentence("Promise 8", "address: 0 to 7");
        Scenes.bounds("address", 0, 7, ARGUMENT, (x, address) -> x.setAddress(address));
        for (int address : new int[] {0, 7}) {
            LightReceiver x = new LightReceiver();
            x.setAddress(address);
            Check.same("a frame to 0", x.frame(0, 1, 0, 10), address == 0 ? 0 : 5);
            Check.same("a frame to 7", x.frame(7, 1, 0, 10), address == 7 ? 0 : 5);
        }
        Check.sentence("Promise 8", "IllegalArgumentException if address is out of range");
        Scenes.refuses("address -1", Scenes::fullRow, ARGUMENT, x -> x.setAddress(-1));
        Scenes.refuses("address 8", Scenes::fullRow, ARGUMENT, x -> x.setAddress(8));
    }

    private static void promise8Previous() {
        Check.sentence("Promise 8", "Returns the previous address.");
        LightReceiver x = new LightReceiver();
        int previous = 0;
        for (int address : new int[] {7, 7, 0, 0, 3, 1}) {
            Check.same("setAddress", x.setAddress(address), previous);
            previous = address;
        }
        Check.sentence("Promise 8", "Sets the address of the receiver. Undoable.");
        Scenes.isUndone("the greatest address", LightReceiver::new, y -> y.setAddress(7));
        Scenes.isUndone("the same address", LightReceiver::new, y -> y.setAddress(0));
        Scenes.isUndone("another address", Scenes::busyWithRoom, y -> y.setAddress(0));
        Scenes.isUndone("the same address", Scenes::busyWithRoom, y -> y.setAddress(5));
    }

    private static void promise9Code() {
        Check.sentence("Promise 9", "code: 0 to 15");
        Scenes.bounds("code", 0, 15, INDEX, (x, code) -> x.learn(code, 2));
        Check.sentence("Promise 9", "IndexOutOfBoundsException if there is no such code");
        Scenes.refuses("code -1", Scenes::fullRow, INDEX, x -> x.learn(-1, 0));
        Scenes.refuses("code 16", Scenes::fullRow, INDEX, x -> x.learn(16, 0));
        Check.sentence("Exceptions", "the one that is listed first in its throws clause is thrown");
        for (int code : new int[] {-1, 16, Integer.MIN_VALUE, Integer.MAX_VALUE}) {
            for (int action : new int[] {-1, 3, Integer.MIN_VALUE, Integer.MAX_VALUE}) {
                Scenes.refuses("code " + code + ", action " + action, Scenes::busy, INDEX, x -> x.learn(code, action));
            }
        }
    }

    private static void promise9Action() {
        Check.sentence("Promise 9", "action: 0 to 2");
        for (int code : new int[] {0, 3, 15}) {
            Scenes.bounds("action", 0, 2, ARGUMENT, (x, action) -> x.learn(code, action));
        }
        Check.sentence("Promise 9", "IllegalArgumentException if action is out of range");
        Scenes.refuses("action -1", Scenes::fullRow, ARGUMENT, x -> x.learn(0, -1));
        Scenes.refuses("action 3", Scenes::fullRow, ARGUMENT, x -> x.learn(15, 3));
    }

    private static void promise9Previous() {
        Check.sentence("Promise 9", "Returns the previous action.");
        for (int code : new int[] {0, 15}) {
            LightReceiver x = new LightReceiver();
            int previous = 0;
            for (int action : new int[] {2, 2, 0, 0, 1, 1, 2}) {
                Check.same("learn", x.learn(code, action), previous);
                Check.same("action", x.action(code), action);
                Check.same("action of the neighbour", x.action(code == 0 ? 1 : 14), 0);
                previous = action;
            }
        }
        Check.sentence("Promise 9", "Learns an action for a code. Undoable.");
        Scenes.isUndone("the first code", LightReceiver::new, y -> y.learn(0, 2));
        Scenes.isUndone("the last code", LightReceiver::new, y -> y.learn(15, 1));
        Scenes.isUndone("the same action", LightReceiver::new, y -> y.learn(15, 0));
        Scenes.isUndone("another action of the remembered code", Scenes::busyWithRoom, y -> y.learn(3, 0));
        Scenes.isUndone("the same action of the remembered code", Scenes::busyWithRoom, y -> y.learn(3, 2));
    }
}
