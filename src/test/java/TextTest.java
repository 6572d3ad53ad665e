/** Promises 26 to 29: light text. */
final class TextTest {
    private static final Class<?> ARGUMENT = IllegalArgumentException.class;
    private static final Class<?> STATE = IllegalStateException.class;

    public static void main(String[] args) {
        promise26Append();
        promise27ClearText();
        promise28FirstError();
        promise28EverySign();
        promise29Run();
        promise29RunIsUndoneAsOneCall();
        promise29IncompleteTexts();
        promise29LongestText();
        Check.end();
    }

    private static void promise26Append() {
        LightReceiver x = new LightReceiver();
        Check.same("the first sign", x.append(33), 1);
        Check.same("the last sign", x.append(126), 2);
        for (int wrong : new int[] {-1, 0, 32, 127, Integer.MIN_VALUE, Integer.MAX_VALUE}) {
            Check.refuses("sign " + wrong, x, ARGUMENT, y -> y.append(wrong));
        }
        for (int length = 3; length <= 60; length++) {
            Check.same("append", x.append('r'), length);
        }
        Check.refuses("a full buffer", x, STATE, y -> y.append('r'));
        Check.refuses("a full buffer and sign 32", x, ARGUMENT, y -> y.append(32));
        Check.same("no state is saved", x.savedStates(), 0);
        Check.same("the length", x.clearText(), 60);
        Check.same("room again", x.append('r'), 1);
    }

    private static void promise27ClearText() {
        LightReceiver x = new LightReceiver();
        Check.same("empty", x.clearText(), 0);
        Check.type(x, "f00");
        Check.same("three", x.clearText(), 3);
        Check.same("empty again", x.clearText(), 0);
        Check.same("no error", x.firstError(), 0);
        Check.same("no state is saved", x.savedStates(), 0);
        x.setGlare(1);
        Check.type(x, "r");
        x.undo();
        Check.same("the buffer is no part of the state", x.clearText(), 1);
    }

    private static void promise28FirstError() {
        isFirstError("", 0);
        isFirstError("f", 1);
        isFirstError("f0", 2);
        isFirstError("f2", 1);
        isFirstError("f09", 3);
        isFirstError("f15", 3);
        isFirstError("f16", 2);
        isFirstError("f151", 4);
        isFirstError("f152", 3);
        isFirstError("f1510", 4);
        isFirstError("r", 1);
        isFirstError("rr", 1);
        isFirstError("r;", 2);
        isFirstError("r;;", 2);
        isFirstError(";", 0);
        isFirstError("t", 1);
        isFirstError("t0", 1);
        isFirstError("t;", 1);
        isFirstError("t9", 2);
        isFirstError("t9;g", 4);
        isFirstError("t90", 3);
        isFirstError("t99;", 4);
        isFirstError("t100", 3);
        isFirstError("g", 1);
        isFirstError("g;", 1);
        isFirstError("g0", 2);
        isFirstError("g00", 2);
        isFirstError("R", 0);
        isFirstError("r;x;y", 2);
        isFirstError("f000;r;t1;g9;!", 13);
        StringBuilder longest = new StringBuilder();
        for (int i = 0; i < 30; i++) {
            longest.append("r;");
        }
        isFirstError(longest.toString(), 60);
        isFirstError(longest.substring(0, 59) + "r", 59);
    }

    private static void isFirstError(String text, int due) {
        LightReceiver x = new LightReceiver();
        Check.type(x, text);
        Check.same("firstError of " + text, x.firstError(), due);
        Check.changesNothing("firstError", x, y -> y.firstError());
        Check.same("length of " + text, x.clearText(), text.length());
    }

    /** What may follow each beginning, tried with every sign that a buffer takes. */
    private static void promise28EverySign() {
        followedOnlyBy("", "frtg");
        followedOnlyBy("f", "01");
        followedOnlyBy("f0", "0123456789");
        followedOnlyBy("f1", "012345");
        followedOnlyBy("f12", "01");
        followedOnlyBy("f07", "01");
        followedOnlyBy("f121", ";");
        followedOnlyBy("r", ";");
        followedOnlyBy("t", "123456789");
        followedOnlyBy("t1", "0123456789;");
        followedOnlyBy("t10", ";");
        followedOnlyBy("g", "0123456789");
        followedOnlyBy("g0", ";");
        followedOnlyBy("g0;", "frtg");
    }

    private static void followedOnlyBy(String beginning, String signs) {
        for (int sign = 33; sign <= 126; sign++) {
            LightReceiver x = new LightReceiver();
            Check.type(x, beginning);
            x.append(sign);
            boolean isRight = signs.indexOf(sign) >= 0;
            Check.same(beginning + (char) sign, x.firstError(), beginning.length() + (isRight ? 1 : 0));
        }
    }

    private static void promise29Run() {
        LightReceiver x = new LightReceiver();
        x.learn(15, 2);
        Check.type(x, "f151");
        Check.same("one press", x.run(), 1);
        Check.same("the buffer is empty", x.clearText(), 0);
        Check.same("its code", x.remembered(), 15);
        Check.type(x, "f151;r;r;f150;r");
        Check.same("a hold and a press", x.run(), 1);
        Check.same("done", x.done(15), 3);
        Check.same("holds", x.holds(), 1);
        Check.type(x, "t9;t50");
        Check.same("no press", x.run(), 0);
        Check.same("time", x.ticksToForget(), 2);
        Check.type(x, "t2;f150;g7");
        Check.same("a press of a forgotten frame", x.run(), 1);
        Check.same("glare", x.glare(), 7);
        Check.same("presses", x.presses(), 3);
        Check.type(x, "f000;f000;f000");
        Check.same("what is missed is no press: 70, 63, 56", x.run(), 1);
        Check.same("refused(1)", x.refused(1), 2);
        x.setAddress(1);
        Check.type(x, "f010;r");
        Check.same("the address is 0", x.run(), 0);
        Check.same("refused(5)", x.refused(5), 1);
        x.setGlare(0);
        Check.type(x, "r;r;r;r;r;r;r");
        x.run();
        Check.same("gain by text", x.gain(), 10);
    }

    private static void promise29RunIsUndoneAsOneCall() {
        LightReceiver x = new LightReceiver();
        x.setGlare(3);
        Check.type(x, "f021;r;t7;g8;f031;r");
        Check.isUndoable("run", x, y -> y.run());
        Check.same("the buffer stays empty", x.clearText(), 0);
        Check.type(x, "t1");
        Check.isUndoable("run of what changes nothing", x, y -> y.run());
        Check.same("saved", x.savedStates(), 1);
    }

    private static void promise29IncompleteTexts() {
        String[] texts = {
            "", "f", "f0", "f00", "f002", "f16", "r;", "t", "t0", "t1;", "t100", "g", "g10", ";r", "r;;r", "rr", "F000",
            "f000;x", "r;t", "f000r", "f15", "r;f00"
        };
        for (String text : texts) {
            LightReceiver x = new LightReceiver();
            x.frame(0, 1, 1, 10);
            Check.type(x, text);
            Check.refuses("run of '" + text + "'", x, ARGUMENT, y -> y.run());
            Check.same("the buffer stays", x.clearText(), text.length());
        }
    }

    private static void promise29LongestText() {
        LightReceiver x = new LightReceiver();
        StringBuilder text = new StringBuilder("t55");
        for (int i = 0; i < 11; i++) {
            text.append(";f07").append(i % 2);
        }
        Check.type(x, text.append(";r").toString());
        Check.same("presses of a text of 60 signs", x.run(), 11);
        Check.same("holds", x.holds(), 1);
        Check.same("received", x.received(), 12);
    }
}
