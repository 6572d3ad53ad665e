/** Promises 10 to 21: what can be asked. */
final class QueriesTest {
    private static final Class<?> ARGUMENT = IllegalArgumentException.class;
    private static final Class<?> INDEX = IndexOutOfBoundsException.class;

    public static void main(String[] args) {
        promises10And11GlareAndGain();
        promises12And13ActionAndDone();
        promises14And15RememberedAndHolds();
        promise16Presses();
        promise17Refused();
        promise18Row();
        promises19And20ReceivedAndShare();
        promise21Bit();
        queriesChangeNothing();
        Check.end();
    }

    private static void promises10And11GlareAndGain() {
        LightReceiver x = new LightReceiver();
        x.setGlare(7);
        Check.same("glare", x.glare(), 7);
        Check.same("gain above 10 - glare", x.gain(), 10);
        x.repeat(10);
        Check.same("gain, one less", x.gain(), 9);
        Check.type(x, "g4;r");
        x.run();
        Check.same("glare by text", x.glare(), 4);
        Check.same("gain, 10 - glare", x.gain(), 6);
        x.undo();
        Check.same("glare undone", x.glare(), 7);
        Check.same("gain undone", x.gain(), 9);
    }

    private static void promises12And13ActionAndDone() {
        LightReceiver x = new LightReceiver();
        for (int code = 0; code < 16; code++) {
            x.learn(code, 1 + code % 2);
            x.frame(0, code, 0, 10);
            x.repeat(10);
            x.repeat(10);
        }
        for (int code = 0; code < 16; code++) {
            Check.same("action " + code, x.action(code), 1 + code % 2);
            Check.same("done " + code, x.done(code), 1 + code % 2);
        }
        for (int wrong : new int[] {-1, 16, Integer.MIN_VALUE, Integer.MAX_VALUE}) {
            Check.refuses("action " + wrong, x, INDEX, y -> y.action(wrong));
            Check.refuses("done " + wrong, x, INDEX, y -> y.done(wrong));
        }
    }

    private static void promises14And15RememberedAndHolds() {
        LightReceiver x = new LightReceiver();
        x.frame(0, 11, 1, 10);
        Check.same("remembered", x.remembered(), 11);
        x.repeat(10);
        x.repeat(10);
        x.repeat(10);
        Check.same("holds", x.holds(), 3);
        x.pass(60);
        Check.same("remembered after 60", x.remembered(), 11);
        Check.same("holds after 60", x.holds(), 3);
        x.pass(1);
        Check.same("remembered after 61", x.remembered(), -1);
        Check.same("holds after 61", x.holds(), 0);
        x.undo();
        Check.same("remembered again", x.remembered(), 11);
        Check.same("holds again", x.holds(), 3);
        x.frame(0, 0, 1, 10);
        Check.same("the code 0 is remembered", x.remembered(), 0);
    }

    private static void promise16Presses() {
        LightReceiver x = new LightReceiver();
        for (int i = 1; i <= 20; i++) {
            x.frame(0, 5, i % 2, 10);
            x.repeat(10);
            x.frame(0, 5, i % 2, 10);
            x.frame(1, 5, 0, 10);
            Check.same("presses", x.presses(), i);
        }
        x.frame(0, 5, 1, 10);
        x.undo();
        Check.same("presses undone", x.presses(), 20);
    }

    private static void promise17Refused() {
        LightReceiver x = new LightReceiver();
        x.repeat(10);
        x.frame(1, 0, 0, 10);
        x.frame(1, 0, 0, 10);
        Check.shineAll(x, Check.frameOf("000000001"));
        x.receive(10);
        for (int i = 0; i < 3; i++) {
            Check.shineAll(x, 16, 7, 4);
            x.receive(10);
        }
        for (int i = 0; i < 4; i++) {
            Check.shineAll(x, 9, 4, 4);
            x.receive(10);
        }
        for (int i = 0; i < 5; i++) {
            Check.shineAll(x, 16);
            x.receive(10);
        }
        int[] due = {5, 4, 3, 1, 2, 1};
        for (int reason = 1; reason <= 6; reason++) {
            Check.same("refused " + reason, x.refused(reason), due[reason - 1]);
        }
        for (int wrong : new int[] {-1, 0, 7, Integer.MIN_VALUE, Integer.MAX_VALUE}) {
            Check.refuses("refused " + wrong, x, INDEX, y -> y.refused(wrong));
        }
    }

    private static void promise18Row() {
        LightReceiver x = new LightReceiver();
        Check.shineAll(x, 3, 3, 3, 3);
        Check.same("row", x.row(), 4);
        x.frame(0, 0, 0, 10);
        Check.same("row after a frame", x.row(), 4);
        x.shine(3);
        x.receive(10);
        Check.same("row after receive", x.row(), 0);
        x.undo();
        Check.same("row undone", x.row(), 5);
    }

    private static void promises19And20ReceivedAndShare() {
        LightReceiver x = new LightReceiver();
        x.repeat(10);
        Check.same("share of one refused", x.hitShare(), 0.0);
        x.frame(0, 1, 0, 10);
        Check.same("share of two", x.hitShare(), 0.5);
        x.repeat(10);
        Check.same("share of three", x.hitShare(), 2.0 / 3.0);
        Check.shineAll(x, 16, 4, 4);
        x.receive(10);
        x.frame(1, 1, 0, 10);
        Check.same("received", x.received(), 5);
        Check.same("share of five", x.hitShare(), 3.0 / 5.0);
        Check.type(x, "r;f000;t99;r");
        x.run();
        Check.same("received by text", x.received(), 8);
        Check.same("share of eight", x.hitShare(), 5.0 / 8.0);
        x.undo();
        Check.same("received, undone", x.received(), 5);
        Check.same("share, undone", x.hitShare(), 3.0 / 5.0);
        x.pass(1);
        x.ifFrame(0, 0, 0, 10);
        Check.same("received, no light more", x.received(), 5);
    }

    private static void promise21Bit() {
        for (int address = 0; address < 8; address++) {
            for (int code = 0; code < 16; code++) {
                LightReceiver x = new LightReceiver();
                for (int toggle = 0; toggle < 2; toggle++) {
                    String bits = figures(address, 3) + figures(code, 4) + toggle;
                    int ones = bits.replace("0", "").length();
                    bits += ones % 2;
                    for (int bit = 0; bit < 9; bit++) {
                        Check.same("bit of " + bits, x.bit(address, code, toggle, bit), bits.charAt(bit) - '0');
                    }
                }
            }
        }
        LightReceiver x = new LightReceiver();
        for (int wrong : new int[] {-1, Integer.MIN_VALUE}) {
            Check.refuses("address " + wrong, x, ARGUMENT, y -> y.bit(wrong, 0, 0, 0));
            Check.refuses("code " + wrong, x, ARGUMENT, y -> y.bit(0, wrong, 0, 0));
            Check.refuses("toggle " + wrong, x, ARGUMENT, y -> y.bit(0, 0, wrong, 0));
            Check.refuses("bit " + wrong, x, ARGUMENT, y -> y.bit(0, 0, 0, wrong));
        }
        Check.refuses("address 8", x, ARGUMENT, y -> y.bit(8, 0, 0, 0));
        Check.refuses("code 16", x, ARGUMENT, y -> y.bit(0, 16, 0, 0));
        Check.refuses("toggle 2", x, ARGUMENT, y -> y.bit(0, 0, 2, 0));
        Check.refuses("bit 9", x, ARGUMENT, y -> y.bit(0, 0, 0, 9));
    }

    private static String figures(int value, int length) {
        String figures = "0000" + Integer.toBinaryString(value);
        return figures.substring(figures.length() - length);
    }

    private static void queriesChangeNothing() {
        LightReceiver x = new LightReceiver();
        x.setGlare(5);
        x.frame(0, 6, 1, 10);
        x.shine(7);
        Check.type(x, "t5;");
        Check.changesNothing("queries", x, y -> {
            y.glare();
            y.gain();
            y.action(6);
            y.done(6);
            y.remembered();
            y.holds();
            y.presses();
            y.refused(6);
            y.row();
            y.received();
            y.hitShare();
            return y.bit(7, 15, 1, 8);
        });
        Check.same("the buffer", x.clearText(), 3);
    }
}
