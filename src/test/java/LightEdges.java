import java.util.Arrays;

/** The terms "Frames", "Light, glare, gain" and "Decoding", sentence by sentence. */
final class LightEdges {
    /** What a repeat is answered with by a receiver that remembers nothing: it was decoded as a repeat. */
    private static final int IS_REPEAT = 6;
    private static final String DECODED = "What is left of a sequence is decoded like this, "
            + "where the first reason that applies is the reason for its refusal:";
    private static final String GAIN = "After each sequence the gain follows the glare: it decreases by 1 if a burst was "
            + "missed, but not below 1; otherwise it becomes the lesser one of gain + 1 and 10 - glare.";
    private static final String MERGED = "A missed burst and the pauses on both sides of it become one pause, whose length "
            + "is the sum of their lengths; but if there is no burst before it or behind it that is not missed, it is left "
            + "out, together with the pauses beside it.";

    static void tryAll() {
        framesLeastAndGreatest();
        framesHighestBitFirst();
        framesParity();
        framesAsLight();
        framesBursts();
        repeatAsLight();
        lightBeginsAndEndsWithABurst();
        lightStrength();
        lightAtFirst();
        lightRoundedDown();
        lightShorterAndLonger();
        lightNotBelowZero();
        lightTooWeak();
        lightShorterThan2();
        lightMerged();
        lightMergedInAFrame();
        lightLeftOut();
        lightEmpty();
        gainFallsToOne();
        gainRisesToTheGlare();
        gainAfterRefusals();
        decodingBursts();
        decodingBurstsLeft();
        decodingFirstBurst();
        decodingPauseOfARepeat();
        decodingPausesOfAFrame();
        decodingParity();
        decodingAddress();
        decodingFirstReasonOfTwo();
    }

    // ---- Frames

    private static void framesLeastAndGreatest() {
        Check.sentence("Frames", "A frame has an address from 0 to 7, a code from 0 to 15, and a toggle, which is 0 or 1.");
        for (int address = 0; address < 8; address++) {
            for (int code = 0; code < 16; code++) {
                LightReceiver x = new LightReceiver();
                x.setAddress(address);
                Check.same("frame of code " + code + ", toggle 0", x.frame(address, code, 0, 10), 0);
                Check.same("its code", x.remembered(), code);
                Check.same("frame of code " + code + ", toggle 1", x.frame(address, code, 1, 10), 0);
                Check.same("its code", x.remembered(), code);
                Check.same("the same toggle", x.frame(address, code, 1, 10), -1);
            }
        }
    }

    private static void framesHighestBitFirst() {
        Check.sentence("Frames", "It consists of nine bits: the three bits of the address, the four bits of the code (in "
                + "both cases the highest bit first), the toggle");
        isInBits(4, 0, 0, "100000001");
        isInBits(1, 0, 0, "001000001");
        isInBits(0, 8, 0, "000100001");
        isInBits(0, 1, 0, "000000101");
        isInBits(0, 0, 1, "000000011");
        isInBits(6, 12, 0, "110110000");
        isInBits(3, 3, 1, "011001111");
    }

    private static void framesParity() {
        Check.sentence("Frames", "the parity, which is 1 if the number of ones among the eight bits before it is odd, "
                + "otherwise 0");
        isInBits(0, 0, 0, "000000000");
        isInBits(7, 15, 1, "111111110");
        isInBits(7, 15, 0, "111111101");
        isInBits(0, 15, 1, "000111111");
        isInBits(7, 0, 0, "111000001");
        isInBits(2, 4, 0, "010010000");
    }

    private static void isInBits(int address, int code, int toggle, String bits) {
        LightReceiver x = new LightReceiver();
        for (int bit = 0; bit < 9; bit++) {
            Check.same("bit " + bit + " of " + bits, x.bit(address, code, toggle, bit), bits.charAt(bit) - '0');
        }
        x.setAddress(address);
        Check.same("light of " + bits, received(x, 10, Check.frameOf(bits)), 0);
        Check.same("frame of " + bits, x.frame(address, code, toggle, 10), -1);
    }

    private static void framesAsLight() {
        Check.sentence("Frames", "A frame is sent as a start burst of 16 ticks and a pause of 8 ticks, and then, for each "
                + "bit, a burst of 4 ticks and a pause, which is 4 ticks for the bit 0 and 12 ticks for the bit 1; and at "
                + "last a burst of 4 ticks.");
        for (int word = 0; word < 256; word++) {
            int address = word / 32;
            int code = word / 2 % 16;
            int toggle = word % 2;
            LightReceiver x = new LightReceiver();
            x.setAddress(address);
            Check.same("light of " + word, received(x, 10, Check.frameOf(Model.bitsOf(address, code, toggle))), 0);
            Check.same("its code", x.remembered(), code);
            Check.same("frame of " + word, x.frame(address, code, toggle, 10), -1);
            Check.same("frame of another toggle", x.frame(address, code, 1 - toggle, 10), 0);
        }
    }

    private static void framesBursts() {
        Check.sentence("Frames", "So it consists of 11 bursts with 10 pauses between them.");
        for (int glare = 0; glare <= 9; glare++) {
            LightReceiver x = new LightReceiver();
            x.setGlare(glare);
            Check.same("bursts of 4 by glare " + glare, x.frame(0, 10, 1, 10), glare < 6 ? 0 : 1);
            LightReceiver z = new LightReceiver();
            z.setGlare(glare);
            int due = glare < 6 ? 0 : 1;
            Check.same("the same as light", received(z, 10, Check.frameOf(Model.bitsOf(0, 10, 1))), due);
        }
    }

    private static void repeatAsLight() {
        Check.sentence("Frames", "A repeat is sent as a burst of 16 ticks, a pause of 4 ticks, and a burst of 4 ticks.");
        for (int glare = 0; glare <= 9; glare++) {
            for (int gain = 1; gain <= 10; gain++) {
                int loss = glare * gain / 20;
                LightReceiver x = Scenes.withGlareAndGain(glare, gain);
                Check.same("repeat by loss " + loss, x.repeat(10), loss <= 2 ? IS_REPEAT : 1);
                LightReceiver z = Scenes.withGlareAndGain(glare, gain);
                Check.same("the same as light", received(z, 10, 16, 4, 4), loss <= 2 ? IS_REPEAT : 1);
            }
        }
    }

    // ---- Light, glare, gain

    private static void lightBeginsAndEndsWithABurst() {
        Check.sentence("Light, glare, gain", "The receiver gets light as a sequence of bursts and pauses by turns, which "
                + "begins and ends with a burst.");
        Check.same("one burst", received(new LightReceiver(), 10, 16), 1);
        Check.same("burst, pause, burst", received(new LightReceiver(), 10, 16, 6, 20), IS_REPEAT);
        Check.same("the pause is the second time", received(new LightReceiver(), 10, 16, 20, 6), 3);
        Check.same("a row that ends with a pause", refusal(16, 6), "throws IllegalStateException");
        Check.same("a row that is empty", refusal(), "throws IllegalStateException");
    }

    private static void lightStrength() {
        Check.sentence("Light, glare, gain", "The light has a strength from 1 to 10.");
        LightReceiver sensitive = new LightReceiver();
        Check.same("strength 1, gain 10", sensitive.frame(0, 1, 0, 1), 0);
        Check.same("strength 10, gain 10", sensitive.frame(0, 2, 0, 10), 0);
        LightReceiver deaf = Scenes.withGlareAndGain(0, 1);
        Check.same("strength 9, gain 1", deaf.ifFrame(0, 1, 0, 9), 1);
        Check.same("strength 10, gain 1", deaf.ifFrame(0, 1, 0, 10), 0);
        Scenes.bounds("strength", 1, 10, IllegalArgumentException.class, (x, strength) -> x.repeat(strength));
    }

    private static void lightAtFirst() {
        Check.sentence("Light, glare, gain", "There is a glare from 0 to 9, at first 0, and a gain from 1 to 10, at first "
                + "10.");
        LightReceiver x = new LightReceiver();
        Check.same("glare at first", x.glare(), 0);
        Check.same("gain at first", x.gain(), 10);
        x.setGlare(9);
        Check.same("the greatest glare", x.glare(), 9);
        for (int due : new int[] {9, 8, 7, 6, 1, 1, 1}) {
            x.frame(0, 0, 0, 10);
            Check.same("the gain in the greatest glare", x.gain(), due);
        }
        x.setGlare(0);
        for (int due : new int[] {2, 3, 4, 5, 6, 7, 8, 9, 10, 10, 10}) {
            x.frame(0, 0, 0, 10);
            Check.same("the gain in the least glare", x.gain(), due);
        }
        Scenes.bounds("glare", 0, 9, IllegalArgumentException.class, (y, glare) -> y.setGlare(glare));
    }

    private static void lightRoundedDown() {
        Check.sentence("Terms", "divisions are rounded down");
        isLoss(0, 10, 0);
        isLoss(1, 1, 0);
        isLoss(1, 10, 0);
        isLoss(2, 9, 0);
        isLoss(3, 6, 0);
        isLoss(9, 2, 0);
        isLoss(2, 10, 1);
        isLoss(4, 5, 1);
        isLoss(3, 7, 1);
        isLoss(3, 10, 1);
        isLoss(4, 9, 1);
        isLoss(9, 4, 1);
        isLoss(4, 10, 2);
        isLoss(5, 8, 2);
        isLoss(7, 8, 2);
        isLoss(6, 10, 3);
        isLoss(8, 9, 3);
        isLoss(8, 10, 4);
        isLoss(9, 9, 4);
        isLoss(9, 10, 4);
    }

    private static void lightShorterAndLonger() {
        Check.sentence("Light, glare, gain", "The glare makes each burst shorter (but not below 0), and each pause longer, "
                + "by (glare * gain) / 20 ticks.");
        for (int glare = 0; glare <= 9; glare++) {
            for (int gain = 1; gain <= 10; gain++) {
                isLoss(glare, gain, glare * gain / 20);
            }
        }
    }

    /** Each limit of a length is met by one length and missed by the next one, when this is what the glare takes. */
    private static void isLoss(int glare, int gain, int loss) {
        isAnswer(glare, gain, 2, 9 + loss, 1, 40);
        isAnswer(glare, gain, IS_REPEAT, 10 + loss, 1, 40);
        isAnswer(glare, gain, IS_REPEAT, 20 + loss, 1, 40);
        isAnswer(glare, gain, 2, 21 + loss, 1, 40);
        isAnswer(glare, gain, IS_REPEAT, 16, 6 - loss, 40);
        isAnswer(glare, gain, 3, 16, 7 - loss, 40);
        isAnswer(glare, gain, IS_REPEAT, 16, 1, 2 + loss);
        isAnswer(glare, gain, 1, 16, 1, 1 + loss);
        int[] frame = wideFrame();
        frame[3] = 8 - loss;
        isAnswer(glare, gain, 0, frame);
        frame[3] = 9 - loss;
        isAnswer(glare, gain, 4, frame);
    }

    private static void isAnswer(int glare, int gain, int due, int... times) {
        LightReceiver x = Scenes.withGlareAndGain(glare, gain);
        Check.same("glare " + glare + ", gain " + gain + ", " + name(times), received(x, 10, times), due);
    }

    private static void lightNotBelowZero() {
        Check.sentence("Light, glare, gain", "The glare makes each burst shorter (but not below 0)");
        isAnswer(4, 10, IS_REPEAT, 16, 1, 1, 1, 8);
        isAnswer(4, 10, 3, 16, 1, 1, 2, 8);
        isAnswer(4, 10, IS_REPEAT, 16, 1, 2, 1, 8);
        isAnswer(4, 10, 3, 16, 1, 3, 1, 8);
        isAnswer(6, 10, 3, 16, 1, 1, 1, 8);
        isAnswer(6, 10, 3, 16, 1, 2, 1, 8);
        // The parity is the pause 1 + 4, 0, 1 + 4; it would be a 0 if the burst of 1 tick became -3.
        int[] frame = {20, 1, 40, 1, 40, 1, 40, 1, 40, 1, 40, 1, 40, 1, 40, 1, 40, 12, 40, 1, 1, 1, 40};
        isAnswer(9, 10, 0, frame);
        frame[17] = 1;
        isAnswer(9, 10, 4, frame);
    }

    private static void lightTooWeak() {
        Check.sentence("Light, glare, gain", "Then all bursts are missed if the strength is less than 11 - gain");
        for (int gain = 1; gain <= 10; gain++) {
            for (int strength = 1; strength <= 10; strength++) {
                boolean isHeard = strength >= 11 - gain;
                String what = "gain " + gain + ", strength " + strength;
                LightReceiver x = Scenes.withGlareAndGain(0, gain);
                Check.same(what, received(x, strength, 16, 4, 40), isHeard ? IS_REPEAT : 1);
                Check.same(what + ", gain", x.gain(), isHeard ? Math.min(gain + 1, 10) : Math.max(gain - 1, 1));
                LightReceiver z = Scenes.withGlareAndGain(0, gain);
                Check.same(what + ", frame", z.frame(0, 0, 0, strength), isHeard ? 0 : 1);
                LightReceiver y = Scenes.withGlareAndGain(1, gain);
                Check.same(what + ", repeat in a glare", y.repeat(strength), isHeard ? IS_REPEAT : 1);
            }
        }
    }

    private static void lightShorterThan2() {
        Check.sentence("Light, glare, gain", "otherwise those that are shorter than 2 ticks are missed");
        isAnswer(0, 10, IS_REPEAT, 16, 4, 2);
        isAnswer(0, 10, 1, 16, 4, 1);
        isAnswer(0, 10, 2, 2, 4, 16);
        isAnswer(0, 10, 1, 1, 4, 16);
        isAnswer(0, 10, 1, 16, 1, 2, 1, 4);
        isAnswer(0, 10, IS_REPEAT, 16, 1, 1, 1, 4);
        isAnswer(5, 10, IS_REPEAT, 16, 4, 4);
        isAnswer(5, 10, 1, 16, 4, 3);
        isAnswer(5, 10, 1, 16, 1, 4, 1, 4);
        isAnswer(5, 10, IS_REPEAT, 16, 1, 1, 1, 4);
        for (int burst = 2; burst <= 20; burst += 2) {
            int[] frame = Check.frameOf("000000000");
            frame[burst] = 2;
            isAnswer(0, 10, 0, frame);
            frame[burst] = 1;
            isAnswer(0, 10, 1, frame);
        }
    }

    private static void lightMerged() {
        Check.sentence("Light, glare, gain", MERGED);
        isAnswer(0, 10, IS_REPEAT, 16, 2, 1, 3, 4);
        isAnswer(0, 10, 3, 16, 3, 1, 3, 4);
        isAnswer(0, 10, 3, 16, 2, 1, 4, 4);
        isAnswer(0, 10, IS_REPEAT, 16, 1, 1, 1, 1, 2, 4);
        isAnswer(0, 10, 3, 16, 1, 1, 2, 1, 2, 4);
        isAnswer(0, 10, 3, 16, 1, 1, 1, 1, 1, 1, 1, 4);
        isAnswer(3, 10, IS_REPEAT, 16, 1, 2, 2, 4);
        isAnswer(3, 10, 3, 16, 2, 2, 2, 4);
        isAnswer(2, 10, IS_REPEAT, 16, 1, 1, 3, 4);
        isAnswer(2, 10, 3, 16, 2, 1, 3, 4);
        int[] longest = new int[29];
        Arrays.fill(longest, 1);
        longest[0] = 16;
        longest[28] = 16;
        isAnswer(0, 10, 3, longest);
    }

    private static void lightMergedInAFrame() {
        Check.sentence("Light, glare, gain", "A missed burst and the pauses on both sides of it become one pause, whose "
                + "length is the sum of their lengths");
        for (int pause = 3; pause <= 19; pause += 2) {
            isAnswer(0, 10, 0, split(Check.frameOf("000000000"), pause, 3, 1, 4));
            isAnswer(0, 10, 4, split(Check.frameOf("000000000"), pause, 3, 1, 5));
            isAnswer(0, 10, 4, split(Check.frameOf("000000000"), pause, 4, 1, 4));
            isAnswer(0, 10, 0, split(split(Check.frameOf("000000000"), pause, 2, 1, 3), pause, 1, 1, 2));
            isAnswer(0, 10, 4, split(split(Check.frameOf("000000000"), pause, 2, 1, 3), pause, 1, 1, 3));
        }
        isAnswer(0, 10, 0, split(Check.frameOf("000000000"), 1, 40, 1, 40));
    }

    private static void lightLeftOut() {
        Check.sentence("Light, glare, gain", "but if there is no burst before it or behind it that is not missed, it is left "
                + "out, together with the pauses beside it");
        isAnswer(0, 10, IS_REPEAT, 1, 40, 16, 6, 4);
        isAnswer(0, 10, IS_REPEAT, 16, 6, 4, 40, 1);
        isAnswer(0, 10, IS_REPEAT, 1, 1, 16, 6, 4, 1, 1);
        isAnswer(0, 10, IS_REPEAT, 1, 40, 1, 40, 16, 6, 4);
        isAnswer(0, 10, IS_REPEAT, 16, 6, 4, 40, 1, 40, 1);
        isAnswer(0, 10, IS_REPEAT, 1, 9, 16, 2, 1, 3, 4, 9, 1);
        isAnswer(0, 10, 3, 1, 9, 16, 2, 1, 4, 4, 9, 1);
        isAnswer(0, 10, 2, 1, 9, 9, 2, 4);
        int[] frame = Check.frameOf("000000000");
        isAnswer(0, 10, 0, joined(new int[] {1, 40}, frame));
        isAnswer(0, 10, 0, joined(frame, new int[] {40, 1}));
        isAnswer(0, 10, 0, joined(joined(new int[] {1, 1, 1, 40}, frame), new int[] {40, 1, 1, 1}));
        isAnswer(0, 10, 1, joined(frame, new int[] {40, 2}));
        isAnswer(0, 10, 1, joined(new int[] {2, 40}, frame));
    }

    private static void lightEmpty() {
        Check.sentence("Light, glare, gain", "So what is left begins and ends with a burst again, or it is empty.");
        isAnswer(0, 10, 1, 1);
        isAnswer(0, 10, 1, 1, 40, 1);
        isAnswer(0, 10, 1, 1, 1, 1, 40, 1);
        isAnswer(9, 10, 1, 4, 40, 5);
        LightReceiver weak = Scenes.withGlareAndGain(0, 9);
        Check.same("all of a frame missed", received(weak, 1, Check.frameOf("000000000")), 1);
        Check.same("it was received", weak.received(), 2);
        Check.same("refused(1)", weak.refused(1), 2);
        Check.same("the gain, one less", weak.gain(), 8);
        int[] full = new int[29];
        Arrays.fill(full, 1);
        isAnswer(0, 10, 1, full);
    }

    private static void gainFallsToOne() {
        Check.sentence("Light, glare, gain", GAIN);
        for (int glare = 0; glare <= 9; glare++) {
            for (int gain = 1; gain <= 10; gain++) {
                int due = gain == 1 ? 1 : gain - 1;
                isGain(glare, gain, due, 10, 1);
                isGain(glare, gain, due, 10, 40, 1, 1, 1, 40);
                isGain(glare, gain, due, 10, 1, 1, 1, 1, 1, 1, 40);
                isGain(glare, gain, gain == 10 ? Math.min(10, 10 - glare) : due, 1, 40);
            }
        }
        LightReceiver x = new LightReceiver();
        Check.same("one burst of three missed", received(x, 10, 16, 1, 1, 1, 4), IS_REPEAT);
        Check.same("the gain", x.gain(), 9);
        Check.same("light that is accepted", received(x, 10, split(Check.frameOf("000000000"), 1, 1, 1, 1)), 0);
        Check.same("the gain after a press", x.gain(), 8);
        Check.same("light that is accepted", received(x, 10, 1, 1, 16, 1, 4, 1, 1), -1);
        Check.same("the gain after a hold", x.gain(), 7);
    }

    private static void gainRisesToTheGlare() {
        Check.sentence("Light, glare, gain", "otherwise it becomes the lesser one of gain + 1 and 10 - glare");
        isGain(0, 10, 10, 10, 40);
        isGain(0, 9, 10, 10, 40);
        isGain(0, 8, 9, 10, 40);
        isGain(0, 1, 2, 10, 40);
        isGain(5, 3, 4, 10, 40);
        isGain(5, 4, 5, 10, 40);
        isGain(5, 5, 5, 10, 40);
        isGain(5, 6, 5, 10, 40);
        isGain(5, 10, 5, 10, 40);
        isGain(8, 1, 2, 10, 40);
        isGain(8, 2, 2, 10, 40);
        isGain(9, 1, 1, 10, 40);
        isGain(9, 2, 1, 10, 40);
        isGain(9, 10, 1, 10, 40);
        for (int glare = 0; glare <= 9; glare++) {
            for (int gain = 1; gain <= 10; gain++) {
                isGain(glare, gain, Math.min(gain + 1, 10 - glare), 10, 40);
                isGain(glare, gain, Math.min(gain + 1, 10 - glare), 11 - gain, 40);
            }
        }
    }

    private static void isGain(int glare, int gain, int due, int strength, int... times) {
        LightReceiver x = Scenes.withGlareAndGain(glare, gain);
        received(x, strength, times);
        Check.same("glare " + glare + ", gain " + gain + ", " + name(times) + ", gain", x.gain(), due);
    }

    private static void gainAfterRefusals() {
        Check.sentence("Light, glare, gain", "After each sequence the gain follows the glare");
        isGain(0, 5, 6, 10, 40);
        isGain(0, 5, 6, 10, 9, 4, 4);
        isGain(0, 5, 6, 10, 16, 7, 4);
        isGain(0, 5, 6, 10, Check.frameOf("000000001"));
        isGain(0, 5, 6, 10, Check.frameOf("001000001"));
        isGain(0, 5, 6, 10, 16, 4, 4);
        isGain(0, 5, 6, 10, Check.frameOf("000000000"));
        LightReceiver x = Scenes.withGlareAndGain(0, 5);
        x.frame(0, 0, 0, 10);
        Check.same("after a press", x.gain(), 6);
        x.frame(0, 0, 0, 10);
        Check.same("after a hold", x.gain(), 7);
        x.repeat(10);
        Check.same("after a repeat", x.gain(), 8);
        x.frame(1, 0, 0, 10);
        Check.same("after a refused frame", x.gain(), 9);
        x.pass(61);
        Check.same("time alone", x.gain(), 9);
        x.repeat(10);
        Check.same("after a refused repeat", x.gain(), 10);
    }

    // ---- Decoding

    private static void decodingBursts() {
        Check.sentence("Decoding", "Reason 1: it does not consist of 2 or 11 bursts.");
        for (int bursts = 1; bursts <= 15; bursts++) {
            int[] times = new int[2 * bursts - 1];
            Arrays.fill(times, 4);
            times[0] = 16;
            LightReceiver x = new LightReceiver();
            int due = bursts == 2 ? IS_REPEAT : bursts == 11 ? 0 : 1;
            Check.same(bursts + " bursts", received(x, 10, times), due);
            Check.same(bursts + " bursts, refused(1)", x.refused(1), due == 1 ? 1 : 0);
        }
    }

    private static void decodingBurstsLeft() {
        Check.sentence("Decoding", "What is left of a sequence is decoded like this");
        int[] frame = Check.frameOf("000000000");
        for (int missed = 1; missed <= 4; missed++) {
            frame = split(frame, 1, 1, 1, 1);
            isAnswer(0, 10, 0, frame);
        }
        int[] repeat = {16, 1, 4};
        for (int missed = 1; missed <= 2; missed++) {
            repeat = split(repeat, 1, 1, 1, 1);
            isAnswer(0, 10, IS_REPEAT, repeat);
        }
        isAnswer(0, 10, 1, split(Check.frameOf("000000000"), 1, 1, 2, 1));
        isAnswer(0, 10, 1, 16, 1, 2, 1, 4);
        int[] fewer = Check.frameOf("000000000");
        fewer[20] = 1;
        isAnswer(0, 10, 1, fewer);
        int[] two = {16, 2, 1, 1, 1, 1, 4, 40, 1, 40, 1, 40, 1, 40, 1, 40, 1, 40, 1, 40, 1};
        isAnswer(0, 10, IS_REPEAT, two);
    }

    private static void decodingFirstBurst() {
        Check.sentence("Decoding", "Reason 2: the first burst is shorter than 10 ticks, or longer than 20 ticks.");
        for (int first = 2; first <= 40; first++) {
            boolean isRight = first >= 10 && first <= 20;
            isAnswer(0, 10, isRight ? IS_REPEAT : 2, first, 4, 4);
            int[] frame = Check.frameOf("000000000");
            frame[0] = first;
            isAnswer(0, 10, isRight ? 0 : 2, frame);
        }
        isAnswer(0, 10, 2, 1, 4, 9, 4, 16);
        isAnswer(0, 10, IS_REPEAT, 1, 4, 10, 4, 9);
        isAnswer(0, 10, IS_REPEAT, 16, 4, 2);
        isAnswer(0, 10, IS_REPEAT, 16, 4, 40);
        isAnswer(0, 10, 0, wideFrame());
    }

    private static void decodingPauseOfARepeat() {
        Check.sentence("Decoding", "If it has 2 bursts: if the pause is shorter than 7 ticks, it is a repeat; otherwise the "
                + "reason is 3.");
        for (int pause = 1; pause <= 40; pause++) {
            isAnswer(0, 10, pause < 7 ? IS_REPEAT : 3, 16, pause, 4);
        }
        LightReceiver x = new LightReceiver();
        x.frame(0, 0, 0, 10);
        Check.same("a pause of 6, a frame is remembered", received(x, 10, 16, 6, 4), -1);
        Check.same("a pause of 7, a frame is remembered", received(x, 10, 16, 7, 4), 3);
        Check.same("holds", x.holds(), 1);
    }

    private static void decodingPausesOfAFrame() {
        Check.sentence("Decoding", "If it has 11 bursts: each pause but the first one is a bit: 0 if it is shorter than 9 "
                + "ticks, and 1 otherwise.");
        for (int bit = 0; bit < 9; bit++) {
            for (int pause : new int[] {1, 4, 8, 9, 12, 40}) {
                int[] zeros = Check.frameOf("000000000");
                zeros[2 * bit + 3] = pause;
                isAnswer(0, 10, pause < 9 ? 0 : 4, zeros);
                int[] ones = Check.frameOf("000111111");
                ones[2 * bit + 3] = pause;
                boolean isOne = pause >= 9;
                isAnswer(0, 10, isOne == bit > 2 ? 0 : 4, ones);
            }
        }
        for (int pause = 1; pause <= 40; pause++) {
            int[] frame = Check.frameOf("000000000");
            frame[1] = pause;
            isAnswer(0, 10, 0, frame);
            int[] bits = Check.frameOf("000111100");
            bits[17] = pause;
            bits[19] = 49 - pause > 40 ? 40 : 49 - pause;
            isToggle(pause >= 9 ? 1 : 0, bits);
        }
    }

    /** Code 15 needs a parity that is the toggle, so a light of another parity is refused. */
    private static void isToggle(int toggle, int[] times) {
        LightReceiver x = new LightReceiver();
        boolean isParity = (times[19] >= 9 ? 1 : 0) == toggle;
        Check.same(name(times), received(x, 10, times), isParity ? 0 : 4);
        if (isParity) {
            Check.same("its toggle", x.frame(0, 15, toggle, 10), -1);
        }
    }

    private static void decodingParity() {
        Check.sentence("Decoding", "Reason 4: the parity is wrong. Otherwise it is a frame.");
        for (int word = 0; word < 512; word++) {
            String bits = Integer.toBinaryString(512 + word).substring(1);
            boolean isWrong = Integer.bitCount(word) % 2 == 1;
            LightReceiver x = new LightReceiver();
            x.setAddress(word / 64);
            Check.same("light of " + bits, received(x, 10, Check.frameOf(bits)), isWrong ? 4 : 0);
            Check.same("refused(4)", x.refused(4), isWrong ? 1 : 0);
            Check.same("the code of " + bits, x.remembered(), isWrong ? -1 : word / 4 % 16);
        }
    }

    private static void decodingAddress() {
        Check.sentence("Decoding", "Reason 5: the frame has another address than the receiver, which is at first 0; it is 0 "
                + "to 7.");
        for (int sent = 0; sent < 8; sent++) {
            Check.same("at first, frame to " + sent, new LightReceiver().frame(sent, 3, 1, 10), sent == 0 ? 0 : 5);
            for (int own = 0; own < 8; own++) {
                LightReceiver x = new LightReceiver();
                x.setAddress(own);
                Check.same("address " + own + ", frame to " + sent, x.frame(sent, 3, 1, 10), sent == own ? 0 : 5);
                int due = sent == own ? -1 : 5;
                Check.same("as light", received(x, 10, Check.frameOf(Model.bitsOf(sent, 3, 1))), due);
                Check.same("refused(5)", x.refused(5), sent == own ? 0 : 2);
                Check.same("presses", x.presses(), sent == own ? 1 : 0);
            }
        }
        Scenes.bounds("address", 0, 7, IllegalArgumentException.class, (x, address) -> x.setAddress(address));
    }

    private static void decodingFirstReasonOfTwo() {
        Check.sentence("Decoding", DECODED);
        isOnlyReason(1, 9);
        isOnlyReason(1, 21, 40, 2, 40, 2);
        isOnlyReason(1, 1);
        isOnlyReason(2, 9, 7, 4);
        isOnlyReason(2, 21, 7, 4);
        isOnlyReason(2, 9, 6, 4);
        isOnlyReason(3, 16, 7, 4);
        isOnlyReason(6, 16, 6, 4);
        isOnlyReason(4, Check.frameOf("001000000"));
        isOnlyReason(5, Check.frameOf("001000001"));
        int[] frame = Check.frameOf("001000000");
        frame[0] = 9;
        isOnlyReason(2, frame);
        frame[0] = 21;
        isOnlyReason(2, frame);
        int[] other = Check.frameOf("001000001");
        other[0] = 21;
        isOnlyReason(2, other);
        isOnlyReason(1, joined(frame, new int[] {4, 4}));
    }

    private static void isOnlyReason(int due, int... times) {
        LightReceiver x = new LightReceiver();
        Check.same(name(times), received(x, 10, times), due);
        for (int reason = 1; reason <= 6; reason++) {
            Check.same(name(times) + ", refused(" + reason + ")", x.refused(reason), reason == due ? 1 : 0);
        }
        Check.same(name(times) + ", received", x.received(), 1);
    }

    // ---- light for tests

    /** A frame of zeros whose start is long and whose pauses are short enough for any glare. */
    private static int[] wideFrame() {
        int[] times = new int[21];
        for (int i = 0; i < 21; i++) {
            times[i] = i % 2 == 0 ? 40 : 1;
        }
        times[0] = 16;
        return times;
    }

    /** The time at the index becomes these three. */
    private static int[] split(int[] times, int index, int before, int burst, int behind) {
        int[] longer = new int[times.length + 2];
        System.arraycopy(times, 0, longer, 0, index);
        longer[index] = before;
        longer[index + 1] = burst;
        longer[index + 2] = behind;
        System.arraycopy(times, index + 1, longer, index + 3, times.length - index - 1);
        return longer;
    }

    private static int[] joined(int[] first, int[] second) {
        int[] all = Arrays.copyOf(first, first.length + second.length);
        System.arraycopy(second, 0, all, first.length, second.length);
        return all;
    }

    private static String name(int[] times) {
        return Arrays.toString(times);
    }

    private static int received(LightReceiver x, int strength, int... times) {
        Check.shineAll(x, times);
        return x.receive(strength);
    }

    private static String refusal(int... times) {
        LightReceiver x = new LightReceiver();
        Check.shineAll(x, times);
        return Check.answer(x, y -> y.receive(10));
    }
}
