/** Promises 7 to 9: glare, address, learned actions. */
final class SettingsTest {
    private static final Class<?> ARGUMENT = IllegalArgumentException.class;
    private static final Class<?> INDEX = IndexOutOfBoundsException.class;

    public static void main(String[] args) {
        promise7SetGlare();
        promise8SetAddress();
        promise9Learn();
        promise9WrongCalls();
        Check.end();
    }

    private static void promise7SetGlare() {
        LightReceiver x = new LightReceiver();
        int previous = 0;
        for (int glare : new int[] {9, 0, 1, 2, 3, 4, 5, 6, 7, 8}) {
            Check.same("setGlare", x.setGlare(glare), previous);
            Check.same("glare", x.glare(), glare);
            Check.same("the gain stays", x.gain(), 10);
            previous = glare;
        }
        Check.isUndoable("setGlare", x, y -> y.setGlare(2));
        Check.isUndoable("setGlare to what it is", x, y -> y.setGlare(8));
        Check.same("glare after undo", x.glare(), 8);
        for (int wrong : new int[] {-1, 10, Integer.MIN_VALUE, Integer.MAX_VALUE}) {
            Check.refuses("glare " + wrong, x, ARGUMENT, y -> y.setGlare(wrong));
        }
    }

    private static void promise8SetAddress() {
        LightReceiver x = new LightReceiver();
        int previous = 0;
        for (int address : new int[] {7, 0, 1, 2, 3, 4, 5, 6}) {
            Check.same("setAddress", x.setAddress(address), previous);
            for (int other = 0; other < 8; other++) {
                Check.same("a frame of " + other, x.ifFrame(other, 0, 0, 10), other == address ? 0 : 5);
            }
            previous = address;
        }
        Check.isUndoable("setAddress", x, y -> y.setAddress(2));
        Check.isUndoable("setAddress to what it is", x, y -> y.setAddress(6));
        x.frame(6, 3, 1, 10);
        x.setAddress(1);
        Check.same("the frame stays remembered", x.remembered(), 3);
        for (int wrong : new int[] {-1, 8, Integer.MIN_VALUE, Integer.MAX_VALUE}) {
            Check.refuses("address " + wrong, x, ARGUMENT, y -> y.setAddress(wrong));
        }
        Check.same("the address before", x.setAddress(0), 1);
    }

    private static void promise9Learn() {
        LightReceiver x = new LightReceiver();
        for (int code = 0; code < 16; code++) {
            Check.same("learn 2", x.learn(code, 2), 0);
            Check.same("learn 1", x.learn(code, 1), 2);
            Check.same("learn code % 3", x.learn(code, code % 3), 1);
        }
        for (int code = 0; code < 16; code++) {
            Check.same("action " + code, x.action(code), code % 3);
        }
        Check.isUndoable("learn", x, y -> y.learn(0, 1));
        Check.isUndoable("learn what it is", x, y -> y.learn(0, 0));
    }

    private static void promise9WrongCalls() {
        LightReceiver x = new LightReceiver();
        x.learn(15, 2);
        for (int wrong : new int[] {-1, 16, Integer.MIN_VALUE, Integer.MAX_VALUE}) {
            Check.refuses("code " + wrong, x, INDEX, y -> y.learn(wrong, 1));
            Check.refuses("code " + wrong + ", action 3", x, INDEX, y -> y.learn(wrong, 3));
        }
        for (int wrong : new int[] {-1, 3, Integer.MIN_VALUE, Integer.MAX_VALUE}) {
            Check.refuses("action " + wrong, x, ARGUMENT, y -> y.learn(15, wrong));
        }
    }
}
