/** Promises 22 to 25, sentence by sentence. */
final class ForecastEdges {
    private static final Class<?> ARGUMENT = IllegalArgumentException.class;

    static void tryAll() {
        promise22Arguments();
        promise22WhatFrameWouldReturn();
        promise22InEveryLight();
        promise23LeastStrength();
        promise23None();
        promise23ByTrial();
        promise24RefusalsToCome();
        promise24ByTrial();
        promise24NotTwenty();
        promise25TicksToForget();
        forecastsChangeNothing();
    }

    private static void promise22Arguments() {
        Check.sentence("Promise 22", "address: 0 to 7");
        Scenes.bounds("address", 0, 7, ARGUMENT, (x, address) -> x.ifFrame(address, 3, 1, 10));
        Check.sentence("Promise 22", "code: 0 to 15");
        Scenes.bounds("code", 0, 15, ARGUMENT, (x, code) -> x.ifFrame(0, code, 1, 10));
        Check.sentence("Promise 22", "toggle: 0 or 1");
        Scenes.bounds("toggle", 0, 1, ARGUMENT, (x, toggle) -> x.ifFrame(0, 3, toggle, 10));
        Check.sentence("Promise 22", "strength: 1 to 10");
        Scenes.bounds("strength", 1, 10, ARGUMENT, (x, strength) -> x.ifFrame(0, 3, 1, strength));
        Check.sentence("Promise 22", "IllegalArgumentException if an argument is out of range");
        Scenes.refuses("all wrong", Scenes::busy, ARGUMENT, x -> x.ifFrame(8, 16, 2, 11));
        Scenes.refuses("all below", Scenes::busy, ARGUMENT, x -> x.ifFrame(-1, -1, -1, 0));
    }

    private static void promise22WhatFrameWouldReturn() {
        Check.sentence("Promise 22", "Returns what frame() would return.");
        LightReceiver x = new LightReceiver();
        Check.same("a press", x.ifFrame(0, 0, 0, 1), 0);
        Check.same("another address", x.ifFrame(7, 0, 0, 1), 5);
        x.frame(0, 0, 0, 1);
        Check.same("a hold", x.ifFrame(0, 0, 0, 1), LightReceiver.NONE);
        Check.same("another toggle", x.ifFrame(0, 0, 1, 1), 0);
        Check.same("another code", x.ifFrame(0, 1, 0, 1), 0);
        x.pass(60);
        Check.same("a hold after 60", x.ifFrame(0, 0, 0, 1), LightReceiver.NONE);
        x.pass(1);
        Check.same("a press after 61", x.ifFrame(0, 0, 0, 1), 0);
        x.setAddress(7);
        Check.same("its own address", x.ifFrame(7, 0, 0, 1), 0);
        Check.same("the old address", x.ifFrame(0, 0, 0, 1), 5);
        x.setGlare(5);
        Check.same("bursts of 2", x.ifFrame(7, 0, 0, 1), 0);
        x.setGlare(6);
        Check.same("bursts of 1", x.ifFrame(7, 0, 0, 1), 1);
        Check.same("bursts of 1, another address", x.ifFrame(0, 0, 0, 10), 1);
    }

    private static void promise22InEveryLight() {
        Check.sentence("Promise 22", "Predicts what frame() would return.");
        for (int glare = 0; glare <= 9; glare++) {
            for (int gain = 1; gain <= 10; gain++) {
                LightReceiver x = Scenes.withGlareAndGain(glare, gain);
                for (int strength = 1; strength <= 10; strength++) {
                    int predicted = x.ifFrame(0, 3, 1, strength);
                    Check.same("predicted again", x.ifFrame(0, 3, 1, strength), predicted);
                    Check.same("frame", x.frame(0, 3, 1, strength), predicted);
                    x.undo();
                }
            }
        }
    }

    private static void promise23LeastStrength() {
        Check.sentence("Promise 23", "Returns the least strength with which a frame of the receiver's address, with the code "
                + "0 and the toggle 0, would be accepted now");
        Check.same("gain 10", new LightReceiver().leastStrength(), 1);
        for (int gain = 1; gain <= 10; gain++) {
            for (int address = 0; address < 8; address++) {
                LightReceiver x = Scenes.withGlareAndGain(0, gain);
                x.setAddress(address);
                Check.same("gain " + gain + ", address " + address, x.leastStrength(), 11 - gain);
            }
        }
        LightReceiver held = new LightReceiver();
        held.frame(0, 0, 0, 10);
        Check.same("a hold is accepted, too", held.leastStrength(), 1);
        held.frame(0, 9, 1, 10);
        Check.same("so is a press", held.leastStrength(), 1);
    }

    private static void promise23None() {
        Check.sentence("Promise 23", "NONE if there is none");
        isLeast(5, 10, 1);
        isLeast(6, 10, LightReceiver.NONE);
        isLeast(6, 9, 2);
        isLeast(7, 9, LightReceiver.NONE);
        isLeast(7, 8, 3);
        isLeast(8, 8, LightReceiver.NONE);
        isLeast(8, 7, 4);
        isLeast(9, 10, LightReceiver.NONE);
        isLeast(9, 7, LightReceiver.NONE);
        isLeast(9, 6, 5);
        isLeast(9, 1, 10);
    }

    private static void isLeast(int glare, int gain, int due) {
        LightReceiver x = Scenes.withGlareAndGain(glare, gain);
        Check.same("glare " + glare + ", gain " + gain, x.leastStrength(), due);
    }

    private static void promise23ByTrial() {
        Check.sentence("Promise 23", "would be accepted now");
        for (int glare = 0; glare <= 9; glare++) {
            for (int gain = 1; gain <= 10; gain++) {
                LightReceiver x = Scenes.withGlareAndGain(glare, gain);
                x.setAddress(gain % 8);
                int least = LightReceiver.NONE;
                for (int strength = 10; strength >= 1; strength--) {
                    least = x.frame(gain % 8, 0, 0, strength) <= 0 ? strength : least;
                    x.undo();
                }
                Check.same("glare " + glare + ", gain " + gain, x.leastStrength(), least);
            }
        }
    }

    private static void promise24RefusalsToCome() {
        Check.sentence("Promise 24", "Returns how many frames of the receiver's address, with the code 0, the toggle 0 and "
                + "the strength 10, are refused from now on, until one is accepted");
        int[] due = {0, 0, 0, 0, 0, 0, 1, 2, 3, 4};
        for (int glare = 0; glare <= 9; glare++) {
            for (int address = 0; address < 8; address++) {
                LightReceiver x = new LightReceiver();
                x.setAddress(address);
                x.setGlare(glare);
                for (int refusals = due[glare]; refusals > 0; refusals--) {
                    Check.same("glare " + glare, x.refusalsToCome(), refusals);
                    Check.same("a refused frame", x.frame(address, 0, 0, 10), 1);
                }
                Check.same("glare " + glare, x.refusalsToCome(), 0);
                Check.same("an accepted frame", x.frame(address, 0, 0, 10), 0);
                Check.same("and no refusal", x.refusalsToCome(), 0);
            }
        }
    }

    private static void promise24ByTrial() {
        Check.sentence("Promise 24", "are refused from now on, until one is accepted");
        for (int glare = 0; glare <= 9; glare++) {
            for (int gain = 1; gain <= 10; gain++) {
                LightReceiver x = Scenes.withGlareAndGain(glare, gain);
                int forecast = x.refusalsToCome();
                int refusals = 0;
                while (refusals < 30 && x.frame(0, 0, 0, 10) > 0) {
                    refusals++;
                }
                Check.same("glare " + glare + ", gain " + gain, forecast, refusals);
            }
        }
    }

    /** No glare and gain refuse more than 4, so NONE can never be due: an answer of NONE would be wrong. */
    private static void promise24NotTwenty() {
        Check.sentence("Promise 24", "NONE if more than 20 would be refused");
        for (int glare = 0; glare <= 9; glare++) {
            for (int gain = 1; gain <= 10; gain++) {
                int refusals = Scenes.withGlareAndGain(glare, gain).refusalsToCome();
                Check.same("glare " + glare + ", gain " + gain, refusals >= 0 && refusals <= 4, true);
            }
        }
        Check.same("the most", Scenes.withGlareAndGain(9, 10).refusalsToCome(), 4);
    }

    private static void promise25TicksToForget() {
        Check.sentence("Promise 25", "Returns the number of ticks after which the remembered frame is forgotten (61 minus "
                + "the ticks since the last light that was accepted); NONE if no frame is remembered.");
        LightReceiver x = new LightReceiver();
        Check.same("no light", x.ticksToForget(), LightReceiver.NONE);
        x.pass(5);
        x.repeat(10);
        Check.same("refused light", x.ticksToForget(), LightReceiver.NONE);
        x.frame(0, 0, 0, 10);
        Check.same("the most", x.ticksToForget(), 61);
        for (int ticks = 1; ticks <= 60; ticks++) {
            x.pass(1);
            Check.same("after " + ticks, x.ticksToForget(), 61 - ticks);
        }
        x.pass(1);
        Check.same("after 61", x.ticksToForget(), LightReceiver.NONE);
        x.pass(99);
        Check.same("long after", x.ticksToForget(), LightReceiver.NONE);
        x.frame(0, 0, 0, 10);
        x.pass(59);
        int left = x.ticksToForget();
        x.pass(left - 1);
        Check.same("one tick before it is forgotten", x.remembered(), 0);
        x.pass(1);
        Check.same("when it is forgotten", x.remembered(), LightReceiver.NONE);
    }

    private static void forecastsChangeNothing() {
        Check.sentence("Terms", "Ahead of the calls `ifFrame`, `leastStrength`, `refusalsToCome`, `ticksToForget` the "
                + "interface says: ---- forecasts; they change nothing.");
        Scenes.Scene[] scenes = {
            LightReceiver::new, Scenes::busy, Scenes::busyWithRoom, Scenes::fullRow, () -> Scenes.withGlareAndGain(9, 10)
        };
        for (Scenes.Scene scene : scenes) {
            Scenes.changesNothing("a press", scene, x -> x.ifFrame(5, 8, 0, 10));
            Scenes.changesNothing("a hold", scene, x -> x.ifFrame(5, 3, 1, 10));
            Scenes.changesNothing("a refusal", scene, x -> x.ifFrame(1, 3, 1, 10));
            Scenes.changesNothing("a missed frame", scene, x -> x.ifFrame(5, 3, 1, 1));
            Scenes.changesNothing("leastStrength", scene, x -> x.leastStrength());
            Scenes.changesNothing("refusalsToCome", scene, x -> x.refusalsToCome());
            Scenes.changesNothing("ticksToForget", scene, x -> x.ticksToForget());
        }
    }
}
