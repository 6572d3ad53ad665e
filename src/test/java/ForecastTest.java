/** Promises 22 to 25: forecasts, which change nothing. */
final class ForecastTest {
    private static final Class<?> ARGUMENT = IllegalArgumentException.class;

    public static void main(String[] args) {
        promise22IfFrame();
        promise22WrongCalls();
        promise23LeastStrength();
        promise24RefusalsToCome();
        promises23And24ComeTrue();
        promise25TicksToForget();
        Check.end();
    }

    private static void promise22IfFrame() {
        LightReceiver x = new LightReceiver();
        x.setGlare(4);
        x.frame(0, 3, 1, 10);
        for (int address = 0; address < 2; address++) {
            for (int code = 2; code < 5; code++) {
                for (int strength = 1; strength <= 10; strength++) {
                    isAsFrame(x, address, code, code % 2, strength);
                }
            }
        }
        x.pass(60);
        Check.same("remembered still", x.ifFrame(0, 3, 1, 10), -1);
        x.pass(1);
        Check.same("forgotten", x.ifFrame(0, 3, 1, 10), 0);
        x.setGlare(9);
        Check.same("glare 9, gain 6: 54 / 20", x.ifFrame(0, 3, 1, 10), 0);
        Check.same("glare 9, gain 6, strength 4", x.ifFrame(0, 3, 1, 4), 1);
        Check.same("glare 9, gain 6, strength 5", x.ifFrame(0, 3, 1, 5), 0);
        Check.changesNothing("ifFrame", x, y -> y.ifFrame(0, 9, 0, 10));
        x.shine(16);
        Check.changesNothing("ifFrame beside a row", x, y -> y.ifFrame(0, 9, 0, 10));
        Check.shineAll(x, 1, 4);
        x.ifFrame(0, 9, 0, 10);
        Check.same("the row is another light", x.receive(10), 6);
    }

    private static void isAsFrame(LightReceiver x, int address, int code, int toggle, int strength) {
        int predicted = x.ifFrame(address, code, toggle, strength);
        Check.same("ifFrame", predicted, x.frame(address, code, toggle, strength));
        x.undo();
    }

    private static void promise22WrongCalls() {
        LightReceiver x = new LightReceiver();
        for (int wrong : new int[] {-1, Integer.MIN_VALUE, Integer.MAX_VALUE}) {
            Check.refuses("address " + wrong, x, ARGUMENT, y -> y.ifFrame(wrong, 0, 0, 10));
            Check.refuses("code " + wrong, x, ARGUMENT, y -> y.ifFrame(0, wrong, 0, 10));
            Check.refuses("toggle " + wrong, x, ARGUMENT, y -> y.ifFrame(0, 0, wrong, 10));
            Check.refuses("strength " + wrong, x, ARGUMENT, y -> y.ifFrame(0, 0, 0, wrong));
        }
        LightReceiver z = new LightReceiver();
        Check.refuses("address 8", z, ARGUMENT, y -> y.ifFrame(8, 0, 0, 10));
        Check.refuses("code 16", z, ARGUMENT, y -> y.ifFrame(0, 16, 0, 10));
        Check.refuses("toggle 2", z, ARGUMENT, y -> y.ifFrame(0, 0, 2, 10));
        Check.refuses("strength 0", z, ARGUMENT, y -> y.ifFrame(0, 0, 0, 0));
        Check.refuses("strength 11", z, ARGUMENT, y -> y.ifFrame(0, 0, 0, 11));
    }

    private static void promise23LeastStrength() {
        LightReceiver x = new LightReceiver();
        x.setAddress(6);
        Check.same("gain 10", x.leastStrength(), 1);
        x.setGlare(5);
        Check.same("glare 5, gain 10: 50 / 20", x.leastStrength(), 1);
        x.setGlare(6);
        Check.same("glare 6, gain 10: 60 / 20", x.leastStrength(), -1);
        x.frame(0, 0, 0, 10);
        Check.same("glare 6, gain 9: 54 / 20", x.leastStrength(), 2);
        x.frame(0, 0, 0, 10);
        Check.same("glare 6, gain 4", x.leastStrength(), 7);
        x.setGlare(9);
        x.frame(0, 0, 0, 10);
        Check.same("glare 9, gain 1", x.leastStrength(), 10);
        Check.changesNothing("leastStrength", x, y -> y.leastStrength());
    }

    private static void promise24RefusalsToCome() {
        int[] due = {0, 0, 0, 0, 0, 0, 1, 2, 3, 4};
        for (int glare = 0; glare <= 9; glare++) {
            LightReceiver x = new LightReceiver();
            x.setAddress(5);
            x.setGlare(glare);
            Check.same("glare " + glare, x.refusalsToCome(), due[glare]);
            x.frame(0, 0, 0, 10);
            Check.same("glare " + glare + ", one later", x.refusalsToCome(), Math.max(due[glare] - 1, 0));
            Check.changesNothing("refusalsToCome", x, y -> y.refusalsToCome());
        }
    }

    /** For every glare and gain that there are, what was forecast is what the frames are answered with. */
    private static void promises23And24ComeTrue() {
        for (int glare = 0; glare <= 9; glare++) {
            for (int missed = 0; missed <= 9; missed++) {
                LightReceiver x = new LightReceiver();
                for (int i = 0; i < missed; i++) {
                    Check.shineAll(x, 1);
                    x.receive(10);
                }
                Check.same("gain", x.gain(), 10 - missed);
                x.setGlare(glare);
                Check.same("leastStrength", x.leastStrength(), leastByTrial(x));
                Check.same("refusalsToCome", x.refusalsToCome(), refusalsByTrial(x));
            }
        }
    }

    private static int leastByTrial(LightReceiver x) {
        for (int strength = 1; strength <= 10; strength++) {
            int answer = x.frame(0, 0, 0, strength);
            x.undo();
            if (answer <= 0) {
                return strength;
            }
        }
        return -1;
    }

    private static int refusalsByTrial(LightReceiver x) {
        for (int refusals = 0; refusals <= 20; refusals++) {
            if (x.frame(0, 0, 0, 10) <= 0) {
                return refusals;
            }
        }
        return -1;
    }

    private static void promise25TicksToForget() {
        LightReceiver x = new LightReceiver();
        x.pass(5);
        Check.same("nothing remembered", x.ticksToForget(), -1);
        x.frame(0, 0, 0, 10);
        Check.same("just now", x.ticksToForget(), 61);
        x.pass(20);
        Check.same("20 later", x.ticksToForget(), 41);
        x.frame(1, 0, 0, 10);
        Check.same("refused light does not count", x.ticksToForget(), 41);
        x.pass(40);
        Check.same("60 later", x.ticksToForget(), 1);
        x.pass(1);
        Check.same("61 later", x.ticksToForget(), -1);
        x.undo();
        x.repeat(10);
        Check.same("a repeat counts", x.ticksToForget(), 61);
        Check.changesNothing("ticksToForget", x, y -> y.ticksToForget());
    }
}
