/** Promises 10 to 21, sentence by sentence. */
final class QueriesEdges {
    private static final Class<?> ARGUMENT = IllegalArgumentException.class;
    private static final Class<?> INDEX = IndexOutOfBoundsException.class;
    private static final int[] NO_INDEX = {Integer.MIN_VALUE, -256, -1, 16, 256, Integer.MAX_VALUE};

    static void tryAll() {
        promise10Glare();
        promise11Gain();
        promise12Action();
        promise13Done();
        promise14Remembered();
        promise15Holds();
        promise16Presses();
        promise17Refused();
        promise18Row();
        promise19Received();
        promise20HitShare();
        promise20OfNothing();
        promise21Bit();
        promise21WrongArguments();
        queriesChangeNothing();
    }

    private static void promise10Glare() {
        Check.sentence("Promise 10", "Returns the glare.");
        LightReceiver x = new LightReceiver();
        Check.same("at first", x.glare(), 0);
        x.setGlare(9);
        Check.same("the greatest", x.glare(), 9);
        x.frame(0, 0, 0, 10);
        Check.same("after light", x.glare(), 9);
        x.setGlare(0);
        Check.same("the least", x.glare(), 0);
        x.undo();
        Check.same("undone", x.glare(), 9);
        Check.same("refused", Check.answer(x, y -> y.setGlare(10)), "throws IllegalArgumentException");
        Check.same("after a call that was refused", x.glare(), 9);
    }

    private static void promise11Gain() {
        Check.sentence("Promise 11", "Returns the gain.");
        Check.same("the greatest", new LightReceiver().gain(), 10);
        for (int gain = 1; gain <= 10; gain++) {
            Check.same("gain", Scenes.withGlareAndGain(9, gain).gain(), gain);
        }
        LightReceiver x = Scenes.withGlareAndGain(0, 1);
        x.repeat(1);
        Check.same("no less than the least", x.gain(), 1);
        LightReceiver z = new LightReceiver();
        z.repeat(10);
        Check.same("no more than the greatest", z.gain(), 10);
    }

    private static void promise12Action() {
        Check.sentence("Promise 12", "code: 0 to 15");
        for (int code = 0; code < 16; code++) {
            for (int action = 0; action <= 2; action++) {
                LightReceiver x = new LightReceiver();
                x.learn(code, action);
                for (int other = 0; other < 16; other++) {
                    Check.same("action(" + other + ")", x.action(other), other == code ? action : 0);
                }
            }
        }
        Check.sentence("Promise 12", "IndexOutOfBoundsException if there is no such code");
        for (int code : NO_INDEX) {
            Scenes.refuses("action(" + code + ")", Scenes::busy, INDEX, x -> x.action(code));
            Scenes.refuses("action(" + code + ")", LightReceiver::new, INDEX, x -> x.action(code));
        }
        Check.sentence("Promise 12", "Returns the action.");
        LightReceiver x = new LightReceiver();
        Check.same("at first", x.action(15), 0);
        x.learn(15, 2);
        x.frame(0, 15, 0, 10);
        Check.same("after it was done", x.action(15), 2);
        x.undo();
        x.undo();
        Check.same("undone", x.action(15), 0);
    }

    private static void promise13Done() {
        Check.sentence("Promise 13", "code: 0 to 15");
        for (int code = 0; code < 16; code++) {
            LightReceiver x = new LightReceiver();
            x.learn(code, 1);
            x.frame(0, code, 0, 10);
            for (int other = 0; other < 16; other++) {
                Check.same("done(" + other + ")", x.done(other), other == code ? 1 : 0);
            }
        }
        Check.sentence("Promise 13", "IndexOutOfBoundsException if there is no such code");
        for (int code : NO_INDEX) {
            Scenes.refuses("done(" + code + ")", Scenes::busy, INDEX, x -> x.done(code));
            Scenes.refuses("done(" + code + ")", LightReceiver::new, INDEX, x -> x.done(code));
        }
        Check.sentence("Promise 13", "Returns how often the action of a code was done so far.");
        LightReceiver x = new LightReceiver();
        x.learn(0, 2);
        for (int press = 1; press <= 100; press++) {
            x.frame(0, 0, press % 2, 10);
            x.repeat(10);
            x.repeat(10);
            Check.same("done", x.done(0), 2 * press);
        }
        x.undo();
        Check.same("done, undone", x.done(0), 199);
        x.learn(0, 0);
        x.pass(99);
        Check.same("done stays when it is unlearned and forgotten", x.done(0), 199);
    }

    private static void promise14Remembered() {
        Check.sentence("Promise 14", "Returns the code of the remembered frame; NONE if no frame is remembered.");
        LightReceiver x = new LightReceiver();
        Check.same("no light", x.remembered(), LightReceiver.NONE);
        x.repeat(10);
        x.frame(1, 9, 0, 10);
        Check.same("refused light", x.remembered(), LightReceiver.NONE);
        x.frame(0, 0, 0, 10);
        Check.same("the least code", x.remembered(), 0);
        x.frame(0, 15, 0, 10);
        Check.same("the greatest code", x.remembered(), 15);
        x.pass(60);
        Check.same("after 60", x.remembered(), 15);
        x.pass(1);
        Check.same("after 61", x.remembered(), LightReceiver.NONE);
        x.undo();
        Check.same("after 60, undone", x.remembered(), 15);
    }

    private static void promise15Holds() {
        Check.sentence("Promise 15", "Returns the number of holds in a row since the last press; 0 if no frame is "
                + "remembered.");
        LightReceiver x = new LightReceiver();
        Check.same("no light", x.holds(), 0);
        x.repeat(10);
        Check.same("a refused repeat", x.holds(), 0);
        x.frame(0, 0, 0, 10);
        Check.same("a press", x.holds(), 0);
        for (int hold = 1; hold <= 150; hold++) {
            int answer = hold % 2 == 0 ? x.frame(0, 0, 0, 10) : x.repeat(10);
            Check.same("a hold", answer, -1);
            Check.same("holds", x.holds(), hold);
        }
        x.pass(60);
        Check.same("after 60", x.holds(), 150);
        x.pass(1);
        Check.same("after 61", x.holds(), 0);
        x.undo();
        Check.same("after 60, undone", x.holds(), 150);
        x.frame(1, 0, 0, 10);
        Check.same("after a refused frame", x.holds(), 150);
        x.learn(0, 2);
        x.setGlare(1);
        x.setAddress(1);
        Check.same("after settings", x.holds(), 150);
        x.setAddress(0);
        x.frame(0, 0, 1, 10);
        Check.same("after a press of another toggle", x.holds(), 0);
        x.repeat(10);
        x.frame(0, 1, 1, 10);
        Check.same("after a press of another code", x.holds(), 0);
        x.repeat(10);
        x.pass(61);
        x.frame(0, 1, 1, 10);
        Check.same("after a press of the forgotten frame", x.holds(), 0);
    }

    private static void promise16Presses() {
        Check.sentence("Promise 16", "Returns the number of new presses so far.");
        LightReceiver x = new LightReceiver();
        Check.same("no light", x.presses(), 0);
        for (int press = 1; press <= 120; press++) {
            x.frame(0, 3, press % 2, 10);
            x.repeat(10);
            x.frame(2, 3, press % 2, 10);
            Check.same("presses", x.presses(), press);
        }
        x.pass(99);
        Check.same("forgotten, but counted", x.presses(), 120);
        x.undo();
        x.undo();
        x.undo();
        x.undo();
        Check.same("undone", x.presses(), 119);
    }

    private static void promise17Refused() {
        Check.sentence("Promise 17", "reason: 1 to 6");
        LightReceiver x = new LightReceiver();
        x.frame(1, 0, 0, 10);
        Check.shineAll(x, 16);
        x.receive(10);
        x.repeat(10);
        int[] due = {1, 0, 0, 0, 1, 1};
        for (int reason = 1; reason <= 6; reason++) {
            Check.same("refused(" + reason + ")", x.refused(reason), due[reason - 1]);
        }
        Check.sentence("Promise 17", "IndexOutOfBoundsException if there is no such reason");
        for (int reason : new int[] {Integer.MIN_VALUE, -1, 0, 7, 8, 257, Integer.MAX_VALUE}) {
            Scenes.refuses("refused(" + reason + ")", Scenes::busy, INDEX, y -> y.refused(reason));
            Scenes.refuses("refused(" + reason + ")", LightReceiver::new, INDEX, y -> y.refused(reason));
        }
        Check.sentence("Promise 17", "Returns how often light was refused for a reason so far.");
        for (int i = 1; i <= 200; i++) {
            x.repeat(10);
            Check.same("refused(6)", x.refused(6), 1 + i);
        }
        x.undo();
        Check.same("refused(6), undone", x.refused(6), 200);
        Check.same("refused(1)", x.refused(1), 1);
        Check.same("a call that throws is no refusal", Check.answer(x, y -> y.repeat(0)), "throws "
                + "IllegalArgumentException");
        Check.same("refused(6)", x.refused(6), 200);
    }

    private static void promise18Row() {
        Check.sentence("Promise 18", "Returns the number of times in the light row.");
        LightReceiver x = new LightReceiver();
        Check.same("empty", x.row(), 0);
        for (int times = 1; times <= 30; times++) {
            x.shine(4);
            Check.same("row", x.row(), times);
        }
        Check.same("full", Check.answer(x, y -> y.shine(4)), "throws IllegalStateException");
        Check.same("still full", x.row(), 30);
        x.undo();
        Check.same("one short of full", x.row(), 29);
        x.receive(10);
        Check.same("empty again", x.row(), 0);
    }

    private static void promise19Received() {
        Check.sentence("Promise 19", "Returns the number of sequences of light that were received so far.");
        LightReceiver x = new LightReceiver();
        Check.same("none", x.received(), 0);
        x.shine(16);
        x.pass(1);
        Check.same("a row is not received yet", x.received(), 0);
        x.receive(1);
        Check.same("refused light counts", x.received(), 1);
        x.frame(0, 0, 0, 10);
        x.frame(0, 0, 0, 10);
        x.frame(1, 0, 0, 10);
        x.repeat(10);
        Check.same("every light counts", x.received(), 5);
        Check.same("refused", Check.answer(x, y -> y.frame(0, 0, 2, 10)), "throws IllegalArgumentException");
        Check.same("refused", Check.answer(x, y -> y.receive(10)), "throws IllegalStateException");
        Check.same("a call that throws does not count", x.received(), 5);
        Check.type(x, "f000;t1;g1;r");
        x.run();
        Check.same("the light of a text counts", x.received(), 7);
        x.undo();
        Check.same("undone", x.received(), 5);
        for (int i = 1; i <= 300; i++) {
            x.frame(7, 0, 0, 1);
        }
        Check.same("received", x.received(), 305);
    }

    private static void promise20HitShare() {
        Check.sentence("Promise 20", "Returns the number of sequences that were accepted, as a double, divided by the number "
                + "of all sequences that were received, as a double");
        LightReceiver x = new LightReceiver();
        x.repeat(10);
        Check.same("none of one", x.hitShare(), 0.0);
        int[] accepted = {1, 2, 3, 3, 3, 4};
        int[] codes = {0, 0, 1, -1, -1, 5};
        for (int i = 0; i < accepted.length; i++) {
            int address = codes[i] < 0 ? 1 : 0;
            x.frame(address, Math.max(codes[i], 0), 0, 10);
            Check.same("share of " + (i + 2), x.hitShare(), (double) accepted[i] / (double) (i + 2));
        }
        x.undo();
        Check.same("share, undone", x.hitShare(), 0.5);
        LightReceiver z = new LightReceiver();
        for (int i = 1; i <= 250; i++) {
            z.frame(0, 0, 0, 10);
            Check.same("all of " + i, z.hitShare(), 1.0);
        }
        z.frame(1, 0, 0, 10);
        Check.same("all but one", z.hitShare(), 250.0 / 251.0);
    }

    private static void promise20OfNothing() {
        Check.sentence("Promise 20", "1.0 if none was");
        LightReceiver x = new LightReceiver();
        Check.same("no light", x.hitShare(), 1.0);
        x.shine(16);
        x.pass(99);
        Check.same("a row that is not received", x.hitShare(), 1.0);
        x.frame(1, 0, 0, 10);
        Check.same("one refused", x.hitShare(), 0.0);
        x.undo();
        Check.same("undone", x.hitShare(), 1.0);
    }

    private static void promise21Bit() {
        Check.sentence("Promise 21", "bit: 0 to 8, in the order in which they are sent");
        for (int word = 0; word < 256; word++) {
            LightReceiver x = new LightReceiver();
            String bits = Integer.toBinaryString(256 + word).substring(1);
            String all = bits + bits.replace("0", "").length() % 2;
            StringBuilder told = new StringBuilder();
            for (int bit = 0; bit < 9; bit++) {
                told.append(x.bit(word / 32, word / 2 % 16, word % 2, bit));
            }
            Check.same("bits", told.toString(), all);
        }
        Check.sentence("Promise 21", "Returns the bit, 0 or 1.");
        LightReceiver x = new LightReceiver();
        x.setAddress(3);
        Check.same("bits of any address", x.bit(7, 0, 0, 0), 1);
        Check.same("the last of them", x.bit(7, 0, 0, 2), 1);
        Check.same("the first bit of the code", x.bit(7, 0, 0, 3), 0);
        Check.same("the toggle", x.bit(0, 0, 1, 7), 1);
        Check.same("the parity", x.bit(0, 0, 1, 8), 1);
        Check.same("the parity of an even number", x.bit(0, 1, 1, 8), 0);
    }

    private static void promise21WrongArguments() {
        Check.sentence("Promise 21", "address: 0 to 7");
        Scenes.bounds("address", 0, 7, ARGUMENT, (x, address) -> x.bit(address, 0, 0, 0));
        Check.sentence("Promise 21", "code: 0 to 15");
        Scenes.bounds("code", 0, 15, ARGUMENT, (x, code) -> x.bit(0, code, 0, 0));
        Check.sentence("Promise 21", "toggle: 0 or 1");
        Scenes.bounds("toggle", 0, 1, ARGUMENT, (x, toggle) -> x.bit(0, 0, toggle, 0));
        Check.sentence("Promise 21", "bit: 0 to 8");
        Scenes.bounds("bit", 0, 8, ARGUMENT, (x, bit) -> x.bit(0, 0, 0, bit));
        Check.sentence("Promise 21", "IllegalArgumentException if an argument is out of range");
        Scenes.refuses("all wrong", Scenes::busy, ARGUMENT, x -> x.bit(8, 16, 2, 9));
        Scenes.refuses("all below", Scenes::busy, ARGUMENT, x -> x.bit(-1, -1, -1, -1));
    }

    private static void queriesChangeNothing() {
        Check.sentence("Undo", "Each method that is marked \"Undoable\" saves the state");
        Scenes.Scene[] scenes = {
            LightReceiver::new, Scenes::busy, Scenes::busyWithRoom, Scenes::fullRow, Scenes::fullBuffer
        };
        for (Scenes.Scene scene : scenes) {
            Scenes.changesNothing("queries", scene, x -> {
                StringBuilder told = new StringBuilder();
                told.append(x.glare()).append(x.gain()).append(x.action(3)).append(x.done(3)).append(x.remembered());
                told.append(x.holds()).append(x.presses()).append(x.refused(6)).append(x.row()).append(x.received());
                return told.append(x.hitShare()).append(x.bit(7, 15, 1, 8)).append(x.savedStates()).append(x.digest());
            });
        }
    }
}
