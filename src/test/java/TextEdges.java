/** The term "Light text" and promises 26 to 29, sentence by sentence. */
final class TextEdges {
    private static final Class<?> ARGUMENT = IllegalArgumentException.class;
    private static final Class<?> STATE = IllegalStateException.class;
    private static final String TEXT = "Light text";

    static void tryAll() {
        bufferAtMost60();
        textOfParts();
        partOfAFrame();
        frameOfAPartIsStrongAndHasTheAddress0();
        partOfARepeat();
        partOfTime();
        partOfGlare();
        errors();
        errorsHoweverLong();
        promise26Code();
        promise26FullBuffer();
        promise26Length();
        promise27Length();
        promise28FirstOfSeveral();
        promise28NoError();
        promise29EmptiesTheBuffer();
        promise29Presses();
        promise29Undoable();
        promise29Incomplete();
        textsSaveNothing();
    }

    private static LightReceiver typed(String text) {
        LightReceiver x = new LightReceiver();
        Check.type(x, text);
        return x;
    }

    /** A text is complete if it is done, and no error stands in it. */
    private static void isComplete(String text) {
        Check.same("firstError of '" + text + "'", typed(text).firstError(), text.length());
        String answer = Check.answer(typed(text), x -> x.run());
        Check.same("run of '" + text + "' throws", answer.startsWith("throws"), false);
    }

    private static void isIncomplete(String text) {
        Check.same("firstError of '" + text + "'", typed(text).firstError(), text.length());
        Scenes.refuses("run of '" + text + "'", () -> typed(text), ARGUMENT, x -> x.run());
    }

    private static void isWrong(String text, int error) {
        Check.same("firstError of '" + text + "'", typed(text).firstError(), error);
        Scenes.refuses("run of '" + text + "'", () -> typed(text), ARGUMENT, x -> x.run());
    }

    /** Of all signs that a buffer takes, only these may follow the beginning. */
    private static void isFollowedBy(String beginning, String signs) {
        for (char sign = 33; sign <= 126; sign++) {
            int due = beginning.length() + (signs.indexOf(sign) >= 0 ? 1 : 0);
            Check.same("firstError of '" + beginning + sign + "'", typed(beginning + sign).firstError(), due);
        }
    }

    // ---- Light text

    private static void bufferAtMost60() {
        Check.sentence(TEXT, "The buffer contains at most 60 characters and is empty at first.");
        LightReceiver x = new LightReceiver();
        Check.same("the length at first", x.clearText(), 0);
        for (int length = 1; length <= 60; length++) {
            Check.same("append", x.append('r'), length);
        }
        Check.same("the 61st sign", Check.answer(x, y -> y.append('r')), "throws IllegalStateException");
        Check.same("the length", x.clearText(), 60);
    }

    private static void textOfParts() {
        Check.sentence(TEXT, "A light text is one or more parts with \";\" between them:");
        isIncomplete("");
        isComplete("r");
        isComplete("r;r");
        isComplete("g0;t1;r;f000");
        isIncomplete("r;");
        isIncomplete("f000;");
        isIncomplete("g0;t1;");
        isWrong(";", 0);
        isWrong(";r", 0);
        isWrong("r;;r", 2);
        isWrong("r;;", 2);
        isWrong("rr", 1);
        isWrong("r,r", 1);
        isWrong("r:r", 1);
        isWrong("f000r", 4);
        isWrong("t1r", 2);
        isWrong("g1g1", 2);
        isComplete("r;".repeat(29) + "t1");
        isComplete("f000;".repeat(11) + "f000");
        isIncomplete("f000;".repeat(12));
    }

    private static void isComplete(String text, int presses) {
        Check.same("run of '" + text + "'", typed(text).run(), presses);
    }

    private static void partOfAFrame() {
        Check.sentence(TEXT, "\"f\", a code in two figures from 00 to 15, and a toggle");
        for (int code = 0; code < 16; code++) {
            for (int toggle = 0; toggle < 2; toggle++) {
                LightReceiver x = typed("f" + code / 10 + code % 10 + toggle);
                Check.same("run", x.run(), 1);
                Check.same("its code", x.remembered(), code);
                Check.same("its frame", x.ifFrame(0, code, toggle, 10), -1);
            }
        }
        isFollowedBy("f", "01");
        isFollowedBy("f0", "0123456789");
        isFollowedBy("f1", "012345");
        isFollowedBy("f00", "01");
        isFollowedBy("f09", "01");
        isFollowedBy("f10", "01");
        isFollowedBy("f15", "01");
        isFollowedBy("f000", ";");
        isFollowedBy("f151", ";");
        isIncomplete("f");
        isIncomplete("f0");
        isIncomplete("f1");
        isIncomplete("f15");
        isWrong("f160", 2);
        isWrong("f200", 1);
        isWrong("f990", 1);
        isWrong("f1;", 2);
        isWrong("f15;", 3);
        isWrong("f152", 3);
        isWrong("f0000", 4);
        isWrong("f-10", 1);
        isWrong("F000", 0);
    }

    private static void frameOfAPartIsStrongAndHasTheAddress0() {
        Check.sentence(TEXT, "a frame with the address 0 is received, with the strength 10");
        LightReceiver deaf = Scenes.withGlareAndGain(0, 1);
        Check.type(deaf, "f031");
        Check.same("gain 1", deaf.run(), 1);
        for (int address = 1; address < 8; address++) {
            LightReceiver x = typed("f031");
            x.setAddress(address);
            Check.same("another address", x.run(), 0);
            Check.same("refused(5)", x.refused(5), 1);
            Check.same("remembered", x.remembered(), -1);
        }
        LightReceiver bright = typed("g6;f031;f031");
        Check.same("it is missed like any frame", bright.run(), 1);
        Check.same("refused(1)", bright.refused(1), 1);
    }

    private static void partOfARepeat() {
        Check.sentence(TEXT, "\"r\": a repeat is received, with the strength 10");
        LightReceiver x = typed("r");
        Check.same("a repeat of nothing", x.run(), 0);
        Check.same("refused(6)", x.refused(6), 1);
        Check.type(x, "f031;r;r");
        Check.same("repeats of a frame", x.run(), 1);
        Check.same("holds", x.holds(), 2);
        LightReceiver deaf = Scenes.withGlareAndGain(0, 1);
        Check.type(deaf, "r");
        deaf.run();
        Check.same("gain 1", deaf.refused(6), 1);
        isFollowedBy("r", ";");
        isWrong("r1", 1);
        isWrong("R", 0);
    }

    private static void partOfTime() {
        Check.sentence(TEXT, "\"t\" and a number from 1 to 99, without leading zeros: like pass()");
        for (int ticks = 1; ticks <= 99; ticks++) {
            LightReceiver x = typed("f000;t" + ticks);
            Check.same("run", x.run(), 1);
            Check.same("remembered after t" + ticks, x.remembered(), ticks <= 60 ? 0 : -1);
            Check.same("time after t" + ticks, x.pass(1), ticks + 1);
        }
        LightReceiver early = typed("t99");
        Check.same("before any light", early.run(), 0);
        Check.same("no time", early.pass(1), -1);
        isFollowedBy("t", "123456789");
        isFollowedBy("t1", "0123456789;");
        isFollowedBy("t9", "0123456789;");
        isFollowedBy("t10", ";");
        isFollowedBy("t99", ";");
        isIncomplete("t");
        isWrong("t0", 1);
        isWrong("t01", 1);
        isWrong("t00", 1);
        isWrong("t100", 3);
        isWrong("t990", 3);
        isWrong("t;", 1);
        isWrong("t-1", 1);
        isWrong("t+1", 1);
        isWrong("T1", 0);
    }

    private static void partOfGlare() {
        Check.sentence(TEXT, "\"g\" and a figure from 0 to 9: like setGlare()");
        for (int glare = 0; glare <= 9; glare++) {
            LightReceiver x = typed("g" + glare);
            x.setGlare(9 - glare);
            Check.same("run", x.run(), 0);
            Check.same("glare", x.glare(), glare);
            Check.same("the gain stays", x.gain(), 10);
        }
        isFollowedBy("g", "0123456789");
        isFollowedBy("g0", ";");
        isFollowedBy("g9", ";");
        isIncomplete("g");
        isWrong("g10", 2);
        isWrong("g00", 2);
        isWrong("g;", 1);
        isWrong("g-1", 1);
        isWrong("G0", 0);
    }

    private static void errors() {
        Check.sentence(TEXT, "A character of the buffer is an error if no light text, however long, begins with the "
                + "characters before it and this character.");
        isFollowedBy("", "frtg");
        isFollowedBy("r;", "frtg");
        isFollowedBy("t1;", "frtg");
        isFollowedBy("t10;", "frtg");
        isFollowedBy("g0;", "frtg");
        isFollowedBy("f151;", "frtg");
        isFollowedBy("r;f1", "012345");
        isFollowedBy("r;t", "123456789");
        isWrong("r;x;r", 2);
        isWrong("x", 0);
        isWrong("!", 0);
        isWrong("~", 0);
    }

    private static void errorsHoweverLong() {
        Check.sentence(TEXT, "no light text, however long, begins with the characters before it and this character");
        String almost = "r;".repeat(29);
        isIncomplete(almost + "f");
        isIncomplete(almost + "t");
        isIncomplete(almost + "g");
        isIncomplete(almost + "r;");
        isIncomplete("r;".repeat(28) + "t99;");
        isIncomplete("r;".repeat(28) + "t9;f");
        isWrong("r;".repeat(28) + "f15;", 59);
        isWrong(almost + "f2", 59);
        isWrong(almost + "rr", 59);
        isWrong(almost + ";", 58);
        isWrong("r;".repeat(28) + "t100", 59);
        isComplete("r;".repeat(28) + "f151", 1);
        isComplete(almost + "t9", 0);
        isComplete(almost + "r", 0);
    }

    // ---- promises 26 and 27

    private static void promise26Code() {
        Check.sentence("Promise 26", "code: a character code, 33 to 126");
        Scenes.bounds("code", 33, 126, ARGUMENT, (x, code) -> x.append(code));
        Check.sentence("Promise 26", "IllegalArgumentException if code is out of range");
        for (int wrong : new int[] {0, 9, 32, 127, 128, 255, 33 + 65536, '0' + 256, -33, 1 << 31 | 'r'}) {
            Scenes.refuses("code " + wrong, Scenes::busy, ARGUMENT, x -> x.append(wrong));
            Check.sentence("Exceptions", "the one that is listed first in its throws clause is thrown");
            Scenes.refuses("a full buffer and code " + wrong, Scenes::fullBuffer, ARGUMENT, x -> x.append(wrong));
            Check.sentence("Promise 26", "IllegalArgumentException if code is out of range");
        }
        LightReceiver x = new LightReceiver();
        for (int code = 33; code <= 126; code++) {
            x.clearText();
            Check.same("append " + code, x.append(code), 1);
        }
    }

    private static void promise26FullBuffer() {
        Check.sentence("Promise 26", "IllegalStateException if the buffer contains 60 characters");
        Scenes.refuses("a full buffer", Scenes::fullBuffer, STATE, x -> x.append('r'));
        Scenes.refuses("a full buffer, code 33", Scenes::fullBuffer, STATE, x -> x.append(33));
        Scenes.refuses("a full buffer, code 126", Scenes::fullBuffer, STATE, x -> x.append(126));
        LightReceiver x = typed("r;".repeat(29) + "r");
        Check.same("the 60th sign", x.append(';'), 60);
        Check.same("the 61st sign", Check.answer(x, y -> y.append('r')), "throws IllegalStateException");
        x.clearText();
        Check.same("the first sign after it was emptied", x.append('r'), 1);
        LightReceiver z = typed("r;".repeat(29) + "t9");
        z.run();
        Check.same("the first sign after it was done", z.append('r'), 1);
        LightReceiver u = typed("r;".repeat(29) + "t9");
        u.pass(1);
        u.undo();
        Check.same("undo empties nothing", Check.answer(u, y -> y.append('r')), "throws IllegalStateException");
    }

    private static void promise26Length() {
        Check.sentence("Promise 26", "Returns the new length of the buffer.");
        LightReceiver x = new LightReceiver();
        for (int length = 1; length <= 60; length++) {
            Check.same("append", x.append(33 + length), length);
        }
        Check.sentence("Promise 26", "Appends a character to the buffer.");
        Check.same("the characters stand in their order", typed("f12").firstError(), 3);
        Check.same("the characters stand in their order", typed("f21").firstError(), 1);
    }

    private static void promise27Length() {
        Check.sentence("Promise 27", "Returns the length that it had.");
        for (int length = 0; length <= 60; length++) {
            LightReceiver x = typed("x".repeat(length));
            Check.same("clearText", x.clearText(), length);
            Check.sentence("Promise 27", "Empties the buffer.");
            Check.same("clearText again", x.clearText(), 0);
            Check.same("firstError", x.firstError(), 0);
            Check.same("append", x.append('r'), 1);
            Check.sentence("Promise 27", "Returns the length that it had.");
        }
    }

    // ---- promise 28

    private static void promise28FirstOfSeveral() {
        Check.sentence("Promise 28", "Returns the index of the first character that is an error");
        isWrong("xxx", 0);
        isWrong("f99x", 1);
        isWrong("r;t0;x", 3);
        isWrong("r;r;r;r;r;r;x;x", 12);
        isWrong("f160;f160", 2);
        isWrong("r;".repeat(29) + "xx", 58);
        isWrong("x".repeat(60), 0);
        Scenes.changesNothing("firstError", () -> Scenes.typed("r;x"), x -> x.firstError());
        Scenes.changesNothing("firstError", Scenes::fullBuffer, x -> x.firstError());
        LightReceiver x = typed("r;x");
        Check.same("an error", x.firstError(), 2);
        x.append(';');
        x.append('r');
        Check.same("the same error", x.firstError(), 2);
    }

    private static void promise28NoError() {
        Check.sentence("Promise 28", "the length of the buffer if there is none (also if the buffer is not a complete light "
                + "text)");
        isIncomplete("");
        isIncomplete("f");
        isIncomplete("f15");
        isIncomplete("r;");
        isIncomplete("t");
        isIncomplete("g");
        isIncomplete("f000;r;t99;g");
        isComplete("f000;r;t99;g9");
        isComplete("t9");
        isIncomplete("r;".repeat(30));
        isComplete("r;".repeat(28) + "f000");
    }

    // ---- promise 29

    private static void promise29EmptiesTheBuffer() {
        Check.sentence("Promise 29", "Does what the light text in the buffer tells, and empties the buffer.");
        LightReceiver x = typed("f151;r;t7;g3");
        Check.same("run", x.run(), 1);
        Check.same("the buffer", x.clearText(), 0);
        Check.same("run of nothing", Check.answer(x, y -> y.run()), "throws IllegalArgumentException");
        Check.same("the frame", x.remembered(), 15);
        Check.same("the repeat", x.holds(), 1);
        Check.same("the time", x.ticksToForget(), 54);
        Check.same("the glare", x.glare(), 3);
        Check.same("received", x.received(), 2);
        Check.type(x, "g0;t54;r");
        x.run();
        Check.same("the parts are done in their order", x.refused(6), 1);
        Check.type(x, "f150;g9;r;f140;g0");
        Check.same("a glare within", x.run(), 1);
        Check.same("two were missed", x.refused(1), 2);
    }

    private static void promise29Presses() {
        Check.sentence("Promise 29", "Returns the number of new presses in it.");
        isComplete("r", 0);
        isComplete("t1", 0);
        isComplete("g9", 0);
        isComplete("f000", 1);
        isComplete("f000;f000", 1);
        isComplete("f000;t60;f000", 1);
        isComplete("f000;t61;f000", 2);
        isComplete("f000;f001", 2);
        isComplete("f000;f010", 2);
        isComplete("f000;f001;".repeat(5) + "f000;f001", 12);
        isComplete("g6;f000", 0);
        LightReceiver x = new LightReceiver();
        x.frame(0, 0, 0, 10);
        Check.type(x, "f000;r");
        Check.same("only holds", x.run(), 0);
        Check.same("presses", x.presses(), 1);
        Check.same("holds", x.holds(), 2);
        x.learn(1, 2);
        Check.type(x, "f010;r;r;r;r");
        Check.same("a press of an action that is repeated", x.run(), 1);
        Check.same("done", x.done(1), 3);
    }

    private static void promise29Undoable() {
        Check.sentence("Promise 29", "Undoable, as one call.");
        for (String text : new String[] {"r", "t1", "g2", "f031", "g9;f031;t99;r;g1;f150", "r;".repeat(29) + "r"}) {
            LightReceiver x = Scenes.typed(text);
            x.undo();
            int saved = x.savedStates();
            x.run();
            Check.same("savedStates after '" + text + "'", x.savedStates(), saved + 1);
            Scenes.Scene roomy = () -> {
                LightReceiver y = Scenes.busyWithRoom();
                y.clearText();
                return y;
            };
            Scenes.changesNothing("'" + text + "' and undo()", roomy, y -> {
                Check.type(y, text);
                y.run();
                return y.undo();
            });
        }
    }

    private static void promise29Incomplete() {
        Check.sentence("Promise 29", "IllegalArgumentException if the buffer is not a complete light text (the buffer "
                + "stays)");
        String[] texts = {"", "f", "f00", "r;", "t", "g", "t0", "t100", "x", "r;x", "g1;f160", "f152", "r;;r", "x".repeat(60)};
        for (String text : texts) {
            Scenes.refuses("run of '" + text + "'", () -> Scenes.typed(text), ARGUMENT, x -> x.run());
        }
        Scenes.refuses("run of a full buffer", () -> Scenes.typed("r;".repeat(30)), ARGUMENT, x -> x.run());
        LightReceiver x = typed("f00");
        Check.same("not complete", Check.answer(x, y -> y.run()), "throws IllegalArgumentException");
        Check.same("one sign more", x.append('1'), 4);
        Check.same("complete", x.run(), 1);
    }

    private static void textsSaveNothing() {
        Check.sentence("Undo", "The state consists of everything except the buffer and the saved states.");
        LightReceiver x = new LightReceiver();
        x.append('r');
        x.firstError();
        x.clearText();
        Check.same("savedStates", x.savedStates(), 0);
        Check.same("digest", x.digest(), new LightReceiver().digest());
        x.pass(1);
        Check.type(x, "f00");
        x.undo();
        Check.same("the buffer after undo()", x.clearText(), 3);
    }
}
