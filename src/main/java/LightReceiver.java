/**
 * An infrared receiver of a remote control; ../shared/DOC.md says what it does, as numbered promises.
 *
 * <p>All rows are made in the constructor and used again, so that no call makes an object but the
 * exception that it throws.
 */
public final class LightReceiver {
    public static final int NONE = -1;

    private static final int HIGHEST_ADDRESS = 7;
    private static final int HIGHEST_CODE = 15;
    private static final int HIGHEST_GLARE = 9;
    private static final int HIGHEST_GAIN = 10;
    private static final int HIGHEST_STRENGTH = 10;
    private static final int NO_ACTION = 0;
    private static final int ACTION_REPEATED = 2;

    private static final int MOST_TIMES = 30;
    private static final int LONGEST_TIME = 40;
    private static final int LONGEST_WAIT = 99;
    private static final int MEMORY_TICKS = 60;

    private static final int BITS = 9;
    private static final int START_BURST = 16;
    private static final int BIT_BURST = 4;
    private static final int START_PAUSE = 8;
    private static final int REPEAT_PAUSE = 4;
    private static final int ZERO_PAUSE = 4;
    private static final int ONE_PAUSE = 12;

    private static final int SHORTEST_HEARD_BURST = 2;
    private static final int SHORTEST_START = 10;
    private static final int LONGEST_START = 20;
    private static final int LONGEST_REPEAT_PAUSE = 6;
    private static final int LONGEST_ZERO_PAUSE = 8;
    /** Two bursts with a pause between them, and eleven bursts with ten pauses between them. */
    private static final int REPEAT_TIMES = 3;
    private static final int FRAME_TIMES = 21;

    private static final int REASON_BURSTS = 1;
    private static final int REASON_START = 2;
    private static final int REASON_PAUSE = 3;
    private static final int REASON_PARITY = 4;
    private static final int REASON_ADDRESS = 5;
    private static final int REASON_FORGOTTEN = 6;
    private static final int HIGHEST_REASON = 6;
    /** What else than a reason can be decoded. */
    private static final int IS_FRAME = 7;
    private static final int IS_REPEAT = 8;

    private static final int NEW_PRESS = 0;
    private static final int HOLD = NONE;

    private static final int MOST_REFUSALS_TO_COME = 20;
    private static final int MOST_SIGNS = 60;
    private static final int LOWEST_SIGN = 33;
    private static final int HIGHEST_SIGN = 126;
    private static final int MOST_SAVED = 6;
    private static final long DIGEST_START = 8302L;

    private final State now;
    private final Saves saves;
    private final LightText text;
    private final Ear ear;

    public LightReceiver() {
        now = new State();
        saves = new Saves();
        text = new LightText();
        ear = new Ear();
    }

    // ---- light

    public int frame(int address, int code, int toggle, int strength) throws IllegalArgumentException {
        checkFrame(address, code, toggle);
        checkStrength(strength);
        saves.keep(now);
        return hearFrame(address, code, toggle, strength);
    }

    public int repeat(int strength) throws IllegalArgumentException {
        checkStrength(strength);
        saves.keep(now);
        return hearRepeat(strength);
    }

    public int receive(int strength) throws IllegalArgumentException, IllegalStateException {
        checkStrength(strength);
        if (now.lightRow.count % 2 == 0) {
            throw new IllegalStateException("the light row does not begin and end with a burst");
        }
        saves.keep(now);
        ear.sendRow(now.lightRow);
        now.lightRow.empty();
        return hear(strength);
    }

    public int shine(int ticks) throws IllegalArgumentException, IllegalStateException {
        checkArgument(isWithin(ticks, 1, LONGEST_TIME));
        if (now.lightRow.count >= MOST_TIMES) {
            throw new IllegalStateException("the light row is full");
        }
        saves.keep(now);
        now.lightRow.add(ticks);
        return now.lightRow.count;
    }

    public int pass(int ticks) throws IllegalArgumentException {
        checkArgument(isWithin(ticks, 1, LONGEST_WAIT));
        saves.keep(now);
        letPass(ticks);
        return now.sinceAccepted;
    }

    // ---- settings

    public int setGlare(int glare) throws IllegalArgumentException {
        checkArgument(isWithin(glare, 0, HIGHEST_GLARE));
        saves.keep(now);
        int previous = now.glare;
        now.glare = glare;
        return previous;
    }

    public int setAddress(int address) throws IllegalArgumentException {
        checkArgument(isWithin(address, 0, HIGHEST_ADDRESS));
        saves.keep(now);
        int previous = now.address;
        now.address = address;
        return previous;
    }

    public int learn(int code, int action) throws IndexOutOfBoundsException, IllegalArgumentException {
        checkIndex(isWithin(code, 0, HIGHEST_CODE));
        checkArgument(isWithin(action, NO_ACTION, ACTION_REPEATED));
        saves.keep(now);
        int previous = now.actions.at(code);
        now.actions.set(code, action);
        return previous;
    }

    // ---- queries

    public int glare() {
        return now.glare;
    }

    public int gain() {
        return now.gain;
    }

    public int action(int code) throws IndexOutOfBoundsException {
        checkIndex(isWithin(code, 0, HIGHEST_CODE));
        return now.actions.at(code);
    }

    public int done(int code) throws IndexOutOfBoundsException {
        checkIndex(isWithin(code, 0, HIGHEST_CODE));
        return now.timesDone.at(code);
    }

    public int remembered() {
        return now.remembers() ? now.code : NONE;
    }

    public int holds() {
        return now.remembers() ? now.holds : 0;
    }

    public int presses() {
        return now.presses;
    }

    public int refused(int reason) throws IndexOutOfBoundsException {
        checkIndex(isWithin(reason, 1, HIGHEST_REASON));
        return now.refusals.at(reason);
    }

    public int row() {
        return now.lightRow.count;
    }

    public int received() {
        return now.received;
    }

    public double hitShare() {
        if (now.received == 0) {
            return 1.0;
        }
        return (double) now.accepted / (double) now.received;
    }

    public int bit(int address, int code, int toggle, int bit) throws IllegalArgumentException {
        checkFrame(address, code, toggle);
        checkArgument(isWithin(bit, 0, BITS - 1));
        return bitOf(wordOf(address, code, toggle), bit);
    }

    // ---- forecasts

    public int ifFrame(int address, int code, int toggle, int strength) throws IllegalArgumentException {
        checkFrame(address, code, toggle);
        checkStrength(strength);
        ear.sendFrame(address, code, toggle);
        return verdict(now.gain, strength);
    }

    public int leastStrength() {
        // Below this strength all bursts are missed, and above it no more of them are heard.
        int strength = weakestHeard(now.gain);
        ear.sendFrame(now.address, 0, 0);
        return isAccepted(verdict(now.gain, strength)) ? strength : NONE;
    }

    public int refusalsToCome() {
        ear.sendFrame(now.address, 0, 0);
        int gain = now.gain;
        for (int refusals = 0; refusals <= MOST_REFUSALS_TO_COME; refusals++) {
            if (isAccepted(verdict(gain, HIGHEST_STRENGTH))) {
                return refusals;
            }
            gain = gainAfter(gain);
        }
        return NONE;
    }

    public int ticksToForget() {
        return now.remembers() ? MEMORY_TICKS + 1 - now.sinceAccepted : NONE;
    }

    // ---- light text

    public int append(int code) throws IllegalArgumentException, IllegalStateException {
        checkArgument(isWithin(code, LOWEST_SIGN, HIGHEST_SIGN));
        if (text.signs.count >= MOST_SIGNS) {
            throw new IllegalStateException("the buffer is full");
        }
        text.signs.add(code);
        return text.signs.count;
    }

    public int clearText() {
        int previous = text.signs.count;
        text.signs.empty();
        return previous;
    }

    public int firstError() {
        return text.firstWrong();
    }

    public int run() throws IllegalArgumentException {
        checkArgument(text.isComplete());
        saves.keep(now);
        int pressesBefore = now.presses;
        int start = 0;
        for (int end = 0; end <= text.signs.count; end++) {
            if (end == text.signs.count || text.signs.at(end) == ';') {
                doPart(start, end);
                start = end + 1;
            }
        }
        text.signs.empty();
        return now.presses - pressesBefore;
    }

    // ---- undo

    public int undo() throws IllegalStateException {
        if (saves.count == 0) {
            throw new IllegalStateException("no state is saved");
        }
        saves.giveBack(now);
        return saves.count;
    }

    public int savedStates() {
        return saves.count;
    }

    public long digest() {
        long hash = DIGEST_START;
        hash = 31L * hash + glare();
        hash = 31L * hash + gain();
        hash = 31L * hash + remembered();
        hash = 31L * hash + holds();
        hash = 31L * hash + presses();
        hash = 31L * hash + row();
        hash = 31L * hash + received();
        hash = 31L * hash + leastStrength();
        hash = 31L * hash + refusalsToCome();
        hash = 31L * hash + ticksToForget();
        for (int code = 0; code <= HIGHEST_CODE; code++) {
            hash = 31L * hash + now.actions.at(code);
            hash = 31L * hash + now.timesDone.at(code);
        }
        for (int reason = 1; reason <= HIGHEST_REASON; reason++) {
            hash = 31L * hash + now.refusals.at(reason);
        }
        return hash;
    }

    // ---- arguments

    private static boolean isWithin(int value, int lowest, int highest) {
        return value >= lowest && value <= highest;
    }

    private static void checkArgument(boolean isRight) {
        if (!isRight) {
            throw new IllegalArgumentException("an argument is out of range");
        }
    }

    private static void checkIndex(boolean isThere) {
        if (!isThere) {
            throw new IndexOutOfBoundsException("there is no such number");
        }
    }

    private static void checkFrame(int address, int code, int toggle) {
        checkArgument(isWithin(address, 0, HIGHEST_ADDRESS));
        checkArgument(isWithin(code, 0, HIGHEST_CODE));
        checkArgument(isWithin(toggle, 0, 1));
    }

    private static void checkStrength(int strength) {
        checkArgument(isWithin(strength, 1, HIGHEST_STRENGTH));
    }

    // ---- the bits of a frame

    /** The nine bits as one number; the parity makes its number of ones even. */
    private static int wordOf(int address, int code, int toggle) {
        int withoutParity = address << 5 | code << 1 | toggle;
        return withoutParity << 1 | (Integer.bitCount(withoutParity) & 1);
    }

    private static int bitOf(int word, int bit) {
        return (word >> (BITS - 1 - bit)) & 1;
    }

    // ---- what light does

    private static int weakestHeard(int gain) {
        return HIGHEST_STRENGTH + 1 - gain;
    }

    private int hearFrame(int address, int code, int toggle, int strength) {
        ear.sendFrame(address, code, toggle);
        return hear(strength);
    }

    private int hearRepeat(int strength) {
        ear.sendRepeat();
        return hear(strength);
    }

    private int hear(int strength) {
        int answer = verdict(now.gain, strength);
        now.received++;
        now.gain = gainAfter(now.gain);
        if (isAccepted(answer)) {
            accept(answer);
        } else {
            now.refusals.increase(answer);
        }
        return answer;
    }

    /** What the light that was sent last would be answered with; forecasts ask it, too, so it changes no state. */
    private int verdict(int gain, int strength) {
        ear.listen(now.glare, gain, strength);
        int meaning = ear.decode();
        if (meaning == IS_REPEAT) {
            return now.remembers() ? HOLD : REASON_FORGOTTEN;
        }
        if (meaning != IS_FRAME) {
            return meaning;
        }
        if (ear.address != now.address) {
            return REASON_ADDRESS;
        }
        boolean isSame = now.remembers() && ear.code == now.code && ear.toggle == now.toggle;
        return isSame ? HOLD : NEW_PRESS;
    }

    private static boolean isAccepted(int answer) {
        return answer == NEW_PRESS || answer == HOLD;
    }

    private int gainAfter(int gain) {
        return ear.missedAny ? Math.max(gain - 1, 1) : Math.min(gain + 1, HIGHEST_GAIN - now.glare);
    }

    private void accept(int answer) {
        now.accepted++;
        now.sinceAccepted = 0;
        if (answer == NEW_PRESS) {
            startPress();
        } else {
            goOnHolding();
        }
    }

    private void startPress() {
        now.presses++;
        now.holds = 0;
        now.code = ear.code;
        now.toggle = ear.toggle;
        if (now.actions.at(now.code) != NO_ACTION) {
            now.timesDone.increase(now.code);
        }
    }

    private void goOnHolding() {
        now.holds++;
        if (now.actions.at(now.code) == ACTION_REPEATED && now.holds % 2 == 0) {
            now.timesDone.increase(now.code);
        }
    }

    private void letPass(int ticks) {
        if (now.sinceAccepted != NONE) {
            now.sinceAccepted += ticks;
        }
    }

    // ---- what a text does

    /** Does the part of the text from start to before end; the text is complete. */
    private void doPart(int start, int end) {
        switch (text.signs.at(start)) {
            case 'f':
                hearFrame(0, text.number(start + 1, start + 3), text.number(start + 3, end), HIGHEST_STRENGTH);
                break;
            case 'r':
                hearRepeat(HIGHEST_STRENGTH);
                break;
            case 't':
                letPass(text.number(start + 1, end));
                break;
            case 'g':
                now.glare = text.number(start + 1, end);
                break;
            default:
                break;
        }
    }

    /** A row of numbers that is made once; beyond its count it holds nothing. */
    private static final class Row {
        private final int[] values;
        private int count;

        Row(int capacity, int filled) {
            values = new int[capacity > 0 ? capacity : 0];
            count = filled;
        }

        int at(int index) {
            return index >= 0 && index < count && index < values.length ? values[index] : 0;
        }

        void set(int index, int value) {
            if (index >= 0 && index < count && index < values.length) {
                values[index] = value;
            }
        }

        void increase(int index) {
            if (index >= 0 && index < count && index < values.length) {
                values[index]++;
            }
        }

        void add(int value) {
            if (count >= 0 && count < values.length) {
                values[count] = value;
                count++;
            }
        }

        void empty() {
            count = 0;
        }

        void become(Row other) {
            System.arraycopy(other.values, 0, values, 0, Math.min(other.values.length, values.length));
            count = other.count;
        }
    }

    /** Everything except the buffer and the saved states. */
    private static final class State {
        private int glare;
        private int gain = HIGHEST_GAIN;
        private int address;
        private int code;
        private int toggle;
        private int holds;
        /** NONE until light is accepted for the first time. */
        private int sinceAccepted = NONE;
        private int presses;
        private int received;
        private int accepted;
        private final Row actions = new Row(HIGHEST_CODE + 1, HIGHEST_CODE + 1);
        private final Row timesDone = new Row(HIGHEST_CODE + 1, HIGHEST_CODE + 1);
        private final Row refusals = new Row(HIGHEST_REASON + 1, HIGHEST_REASON + 1);
        private final Row lightRow = new Row(MOST_TIMES, 0);

        /** Only a frame can be the first light that is accepted, so accepted light means that there was a frame. */
        boolean remembers() {
            return sinceAccepted != NONE && sinceAccepted <= MEMORY_TICKS;
        }

        void become(State other) {
            glare = other.glare;
            gain = other.gain;
            address = other.address;
            code = other.code;
            toggle = other.toggle;
            holds = other.holds;
            sinceAccepted = other.sinceAccepted;
            presses = other.presses;
            received = other.received;
            accepted = other.accepted;
            actions.become(other.actions);
            timesDone.become(other.timesDone);
            refusals.become(other.refusals);
            lightRow.become(other.lightRow);
        }
    }

    /** The saved states, the oldest one first. */
    private static final class Saves {
        private final State[] states = new State[MOST_SAVED];
        private int count;

        Saves() {
            for (int i = 0; i < states.length; i++) {
                states[i] = new State();
            }
        }

        void keep(State state) {
            if (count >= states.length) {
                discardOldest();
            }
            if (count >= 0 && count < states.length && states[count] != null) {
                states[count].become(state);
                count++;
            }
        }

        /** The object of the oldest state goes to the end, where the next state is written over it. */
        private void discardOldest() {
            int last = states.length - 1;
            if (last < 0) {
                return;
            }
            State oldest = states[0];
            for (int i = 0; i < last; i++) {
                states[i] = states[i + 1];
            }
            states[last] = oldest;
            count = last;
        }

        void giveBack(State state) {
            if (count > 0 && count <= states.length && states[count - 1] != null) {
                count--;
                state.become(states[count]);
            }
        }
    }

    /** The light that was sent, what is left of it, and what that means; nothing here belongs to the state. */
    private static final class Ear {
        private final Row sent = new Row(MOST_TIMES, 0);
        private final Row left = new Row(MOST_TIMES, 0);
        private boolean missedAny;
        private int address;
        private int code;
        private int toggle;

        void sendFrame(int toAddress, int ofCode, int withToggle) {
            int word = wordOf(toAddress, ofCode, withToggle);
            sent.empty();
            sent.add(START_BURST);
            sent.add(START_PAUSE);
            for (int bit = 0; bit < BITS; bit++) {
                sent.add(BIT_BURST);
                sent.add(bitOf(word, bit) == 1 ? ONE_PAUSE : ZERO_PAUSE);
            }
            sent.add(BIT_BURST);
        }

        void sendRepeat() {
            sent.empty();
            sent.add(START_BURST);
            sent.add(REPEAT_PAUSE);
            sent.add(BIT_BURST);
        }

        void sendRow(Row lightRow) {
            sent.become(lightRow);
        }

        /** Missed bursts lengthen the pause around them; a pause at either end of what is left is never added. */
        void listen(int glare, int gain, int strength) {
            int loss = glare * gain / 20;
            boolean isTooWeak = strength < weakestHeard(gain);
            int pause = 0;
            missedAny = false;
            left.empty();
            for (int i = 0; i < sent.count; i++) {
                if (i % 2 == 1) {
                    pause += sent.at(i) + loss;
                    continue;
                }
                int burst = Math.max(sent.at(i) - loss, 0);
                if (isTooWeak || burst < SHORTEST_HEARD_BURST) {
                    missedAny = true;
                    pause += burst;
                    continue;
                }
                if (left.count > 0) {
                    left.add(pause);
                }
                left.add(burst);
                pause = 0;
            }
        }

        /** A reason from 1 to 4, or IS_FRAME (its parts stand here then), or IS_REPEAT. */
        int decode() {
            if (left.count != REPEAT_TIMES && left.count != FRAME_TIMES) {
                return REASON_BURSTS;
            }
            if (left.at(0) < SHORTEST_START || left.at(0) > LONGEST_START) {
                return REASON_START;
            }
            if (left.count == REPEAT_TIMES) {
                return left.at(1) <= LONGEST_REPEAT_PAUSE ? IS_REPEAT : REASON_PAUSE;
            }
            int word = 0;
            for (int i = 3; i < left.count; i += 2) {
                word = word << 1 | (left.at(i) <= LONGEST_ZERO_PAUSE ? 0 : 1);
            }
            if (Integer.bitCount(word) % 2 != 0) {
                return REASON_PARITY;
            }
            address = (word >> 6) & HIGHEST_ADDRESS;
            code = (word >> 2) & HIGHEST_CODE;
            toggle = (word >> 1) & 1;
            return IS_FRAME;
        }
    }

    /** The buffer, and where in a light text each of its signs stands. */
    private static final class LightText {
        private static final int AT_PART = 0;
        private static final int AT_CODE = 1;
        private static final int AT_CODE_BELOW_10 = 2;
        private static final int AT_CODE_FROM_10 = 3;
        private static final int AT_TOGGLE = 4;
        private static final int AT_TICKS = 5;
        private static final int AT_MORE_TICKS = 6;
        private static final int AT_GLARE = 7;
        private static final int AT_END = 8;
        private static final int AT_ERROR = 9;

        private final Row signs = new Row(MOST_SIGNS, 0);

        int firstWrong() {
            int place = AT_PART;
            for (int i = 0; i < signs.count; i++) {
                place = placeAfter(place, signs.at(i));
                if (place == AT_ERROR) {
                    return i;
                }
            }
            return signs.count;
        }

        boolean isComplete() {
            int place = AT_PART;
            for (int i = 0; i < signs.count; i++) {
                place = placeAfter(place, signs.at(i));
            }
            return place == AT_END || place == AT_MORE_TICKS;
        }

        private static int placeAfter(int place, int sign) {
            switch (place) {
                case AT_PART:
                    return placeAfterLetter(sign);
                case AT_CODE:
                    return sign == '0' ? AT_CODE_BELOW_10 : sign == '1' ? AT_CODE_FROM_10 : AT_ERROR;
                case AT_CODE_BELOW_10:
                    return isWithin(sign, '0', '9') ? AT_TOGGLE : AT_ERROR;
                case AT_CODE_FROM_10:
                    return isWithin(sign, '0', '5') ? AT_TOGGLE : AT_ERROR;
                case AT_TOGGLE:
                    return isWithin(sign, '0', '1') ? AT_END : AT_ERROR;
                case AT_TICKS:
                    return isWithin(sign, '1', '9') ? AT_MORE_TICKS : AT_ERROR;
                case AT_MORE_TICKS:
                    return isWithin(sign, '0', '9') ? AT_END : placeAfterPart(sign);
                case AT_GLARE:
                    return isWithin(sign, '0', '9') ? AT_END : AT_ERROR;
                case AT_END:
                    return placeAfterPart(sign);
                default:
                    return AT_ERROR;
            }
        }

        private static int placeAfterPart(int sign) {
            return sign == ';' ? AT_PART : AT_ERROR;
        }

        private static int placeAfterLetter(int sign) {
            switch (sign) {
                case 'f':
                    return AT_CODE;
                case 'r':
                    return AT_END;
                case 't':
                    return AT_TICKS;
                case 'g':
                    return AT_GLARE;
                default:
                    return AT_ERROR;
            }
        }

        /** The number whose figures stand from start to before end. */
        int number(int start, int end) {
            int value = 0;
            for (int i = start; i < end; i++) {
                value = 10 * value + signs.at(i) - '0';
            }
            return value;
        }
    }
}
