import java.util.List;
import java.util.Random;

/**
 * Long runs of calls, the same ones each time, on a receiver and on the model; every answer is compared. An object is
 * used for no more than 512 calls.
 */
final class RandomRunsTest {
    private static final int RUNS = 1500;
    private static final int MOST_CALLS = 512;
    /** No step makes more calls than this. */
    private static final int CALLS_OF_A_STEP = 60;
    private static final String IAE = "throws IllegalArgumentException";
    private static final String ISE = "throws IllegalStateException";
    private static final String IOOBE = "throws IndexOutOfBoundsException";

    private final Random random;
    private final String name;
    private final LightReceiver x = new LightReceiver();
    private final Model model = new Model();
    private int calls = 0;

    private RandomRunsTest(int seed) {
        random = new Random(seed);
        name = "run " + seed + ": ";
    }

    public static void main(String[] args) {
        for (int seed = 1; seed <= RUNS; seed++) {
            RandomRunsTest run = new RandomRunsTest(seed);
            while (run.calls <= MOST_CALLS - CALLS_OF_A_STEP) {
                run.step();
                run.compareState();
            }
            Check.same("calls of a run", run.calls <= MOST_CALLS, true);
        }
        Check.end();
    }

    private void step() {
        switch (random.nextInt(14)) {
            case 0:
            case 1:
                frame();
                break;
            case 2:
                repeat();
                break;
            case 3:
                receive();
                break;
            case 4:
                shineLight();
                break;
            case 5:
                pass();
                break;
            case 6:
                setGlare();
                break;
            case 7:
                setAddress();
                break;
            case 8:
                learn();
                break;
            case 9:
                typeText();
                break;
            case 10:
                runText();
                break;
            case 11:
                undo();
                break;
            case 12:
                forecast();
                break;
            default:
                queries();
                break;
        }
    }

    /** Mostly in range, now and then one beyond an end or far off. */
    private int number(int lowest, int highest) {
        int kind = random.nextInt(60);
        if (kind == 0) {
            return lowest - 1;
        }
        if (kind == 1) {
            return highest + 1;
        }
        return kind == 2 ? random.nextInt() : lowest + random.nextInt(highest - lowest + 1);
    }

    private static boolean isOut(int value, int lowest, int highest) {
        return value < lowest || value > highest;
    }

    private int likelyAddress() {
        return random.nextInt(6) == 0 ? number(0, 7) : model.now.address;
    }

    private int likelyCode() {
        return random.nextInt(3) == 0 ? number(0, 15) : 3;
    }

    private int likelyStrength() {
        return random.nextInt(3) == 0 ? number(1, 10) : 10;
    }

    private static boolean isNoFrame(int address, int code, int toggle) {
        return isOut(address, 0, 7) || isOut(code, 0, 15) || isOut(toggle, 0, 1);
    }

    private void compare(String what, Check.Call call, Object due) {
        calls++;
        Check.same(name + what, Check.answer(x, call), String.valueOf(due));
    }

    private void frame() {
        int address = likelyAddress();
        int code = likelyCode();
        int toggle = number(0, 1);
        int strength = likelyStrength();
        Object due = IAE;
        if (!isNoFrame(address, code, toggle) && !isOut(strength, 1, 10)) {
            model.save();
            due = model.take(Model.frameLight(address, code, toggle), strength);
        }
        compare("frame", y -> y.frame(address, code, toggle, strength), due);
    }

    private void repeat() {
        int strength = likelyStrength();
        Object due = IAE;
        if (!isOut(strength, 1, 10)) {
            model.save();
            due = model.take(Model.repeatLight(), strength);
        }
        compare("repeat", y -> y.repeat(strength), due);
    }

    private void receive() {
        int strength = likelyStrength();
        Object due = IAE;
        if (!isOut(strength, 1, 10)) {
            due = ISE;
            if (model.now.row.size() % 2 == 1) {
                model.save();
                List<Integer> light = List.copyOf(model.now.row);
                model.now.row.clear();
                due = model.take(light, strength);
            }
        }
        compare("receive", y -> y.receive(strength), due);
    }

    private void shine(int ticks) {
        Object due = IAE;
        if (!isOut(ticks, 1, 40)) {
            due = ISE;
            if (model.now.row.size() < 30) {
                model.save();
                model.now.row.add(ticks);
                due = model.now.row.size();
            }
        }
        compare("shine", y -> y.shine(ticks), due);
    }

    /** A frame or a repeat with some times changed or split, or any times, and mostly received at once. */
    private void shineLight() {
        if (model.now.row.size() > 0) {
            receive();
        }
        int kind = random.nextInt(5);
        if (kind == 0) {
            int times = 1 + random.nextInt(33);
            for (int i = 0; i < times; i++) {
                shine(i % 2 == 1 ? number(1, 40) : number(1, 6));
            }
        } else {
            List<Integer> light = kind == 1 ? Model.repeatLight()
                    : Model.frameLight(model.now.address, random.nextInt(16), random.nextInt(2));
            shineChanged(light);
        }
        if (random.nextInt(4) > 0) {
            receive();
        }
    }

    private void shineChanged(List<Integer> light) {
        for (int i = 0; i < light.size(); i++) {
            int ticks = light.get(i);
            int chance = random.nextInt(40);
            if (chance == 0) {
                shine(number(1, 40));
            } else if (chance < 4) {
                shine(Math.max(1, Math.min(40, ticks + random.nextInt(15) - 7)));
            } else if (chance == 4 && i % 2 == 1) {
                shine(1 + random.nextInt(4));
                shine(1 + random.nextInt(3));
                shine(1 + random.nextInt(4));
            } else {
                shine(ticks);
            }
        }
    }

    private void pass() {
        int ticks = random.nextBoolean() ? number(1, 99) : number(1, 30);
        Object due = IAE;
        if (!isOut(ticks, 1, 99)) {
            model.save();
            due = model.pass(ticks);
        }
        compare("pass", y -> y.pass(ticks), due);
    }

    private void setGlare() {
        int glare = number(0, 9);
        Object due = IAE;
        if (!isOut(glare, 0, 9)) {
            model.save();
            due = model.now.glare;
            model.now.glare = glare;
        }
        compare("setGlare", y -> y.setGlare(glare), due);
    }

    private void setAddress() {
        int address = random.nextBoolean() ? 0 : number(0, 7);
        Object due = IAE;
        if (!isOut(address, 0, 7)) {
            model.save();
            due = model.now.address;
            model.now.address = address;
        }
        compare("setAddress", y -> y.setAddress(address), due);
    }

    private void learn() {
        int code = likelyCode();
        int action = number(0, 2);
        Object due = IOOBE;
        if (!isOut(code, 0, 15)) {
            due = IAE;
            if (!isOut(action, 0, 2)) {
                model.save();
                due = model.now.actions.getOrDefault(code, 0);
                model.now.actions.put(code, action);
            }
        }
        compare("learn", y -> y.learn(code, action), due);
    }

    private void typeText() {
        int parts = 1 + random.nextInt(6);
        for (int i = 0; i < parts; i++) {
            if (!model.buffer.isEmpty() && random.nextInt(20) > 0) {
                type(';');
            }
            for (char sign : anyPart().toCharArray()) {
                type(random.nextInt(150) == 0 ? number(33, 126) : sign);
            }
        }
        compare("firstError", LightReceiver::firstError, model.firstError());
    }

    private String anyPart() {
        switch (random.nextInt(4)) {
            case 0:
                int code = random.nextInt(17);
                return "f" + code / 10 + code % 10 + random.nextInt(2);
            case 1:
                return "r";
            case 2:
                return "t" + (random.nextInt(20) == 0 ? random.nextInt(120) : 1 + random.nextInt(70));
            default:
                return "g" + random.nextInt(10);
        }
    }

    private void type(int sign) {
        Object due = IAE;
        if (!isOut(sign, 33, 126)) {
            due = ISE;
            if (model.buffer.length() < 60) {
                model.buffer += (char) sign;
                due = model.buffer.length();
            }
        }
        compare("append", y -> y.append(sign), due);
    }

    private void runText() {
        boolean isComplete = model.isComplete();
        compare("run", LightReceiver::run, isComplete ? model.run() : IAE);
        if (!isComplete) {
            compare("clearText", LightReceiver::clearText, model.buffer.length());
            model.buffer = "";
        }
    }

    private void undo() {
        int times = 1 + random.nextInt(8);
        for (int i = 0; i < times; i++) {
            compare("undo", LightReceiver::undo, model.saved.isEmpty() ? ISE : model.undo());
        }
    }

    private void forecast() {
        int address = likelyAddress();
        int code = likelyCode();
        int toggle = number(0, 1);
        int strength = likelyStrength();
        boolean isWrong = isNoFrame(address, code, toggle) || isOut(strength, 1, 10);
        compare("ifFrame", y -> y.ifFrame(address, code, toggle, strength),
                isWrong ? IAE : model.ifFrame(address, code, toggle, strength));
        compare("leastStrength", LightReceiver::leastStrength, model.leastStrength());
        compare("refusalsToCome", LightReceiver::refusalsToCome, model.refusalsToCome());
        compare("ticksToForget", LightReceiver::ticksToForget, model.ticksToForget());
    }

    private void queries() {
        int code = number(0, 15);
        int reason = number(1, 6);
        int bit = number(0, 8);
        int address = number(0, 7);
        compare("glare", LightReceiver::glare, model.now.glare);
        compare("gain", LightReceiver::gain, model.now.gain);
        compare("action", y -> y.action(code), isOut(code, 0, 15) ? IOOBE : model.now.actions.getOrDefault(code, 0));
        compare("done", y -> y.done(code), isOut(code, 0, 15) ? IOOBE : model.now.done.getOrDefault(code, 0));
        compare("remembered", LightReceiver::remembered, model.remembered());
        compare("holds", LightReceiver::holds, model.holds());
        compare("presses", LightReceiver::presses, model.now.presses);
        compare("refused", y -> y.refused(reason), isOut(reason, 1, 6) ? IOOBE : model.refused(reason));
        compare("row", LightReceiver::row, model.now.row.size());
        compare("received", LightReceiver::received, model.now.answers.size());
        boolean isWrong = isNoFrame(address, code, 1) || isOut(bit, 0, 8);
        compare("bit", y -> y.bit(address, code, 1, bit),
                isWrong ? IAE : String.valueOf(Model.bitsOf(address, code, 1).charAt(bit)));
    }

    private void compareState() {
        compare("hitShare", LightReceiver::hitShare, model.hitShare());
        compare("savedStates", LightReceiver::savedStates, model.saved.size());
        compare("digest", LightReceiver::digest, model.digest());
    }
}
