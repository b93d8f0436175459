/** A music cylinder with pins for three tunes, a comb, a spring, a governor, and dampers that may squeak. */
public final class PinCylinder {
    public static final int NONE = -1;

    private static final int TUNES = 3;
    private static final int TEETH = 12;
    private static final int STEPS = 32;
    private static final int MOST_WIND = 400;
    private static final int MOST_VANES = 9;
    private static final int MOST_WEAR = 9;
    private static final int MOST_PLAYED = 128;
    private static final int MOST_TURNS = 9;
    private static final int NOTES_KEPT = 24;
    private static final int STATES_SAVED = 6;
    private static final int BUFFER_SIZE = 60;
    private static final int COUNTS = 18;
    private static final int OUTCOMES = 5;
    private static final int TUNE_NUMBERS = 5;
    private static final int TOOTH_NUMBERS = 5;

    private static final int RINGING = 0;
    private static final int DAMPING = 1;
    private static final int SHIFTING = 2;
    private static final int APART = 3;
    private static final int IN_A_STEP = 4;
    private static final int SETTINGS = 5;
    private static final int[] LEAST_VALUE = {4, 0, 0, 1, 1};
    private static final int[] MOST_VALUE = {90, 20, 1, 8, 12};

    private static final long HASH_START = 3797L;
    private static final int DOUBLE_BIAS = 1023;
    private static final int FRACTION_BITS = 52;
    private static final long FRACTION_UNITS = 1L << FRACTION_BITS;

    private final State state = new State();
    private final State trial = new State();
    private final State snapshot = new State();
    private boolean hasSnapshot = false;
    private final State[] saved = new State[STATES_SAVED];
    private int oldestSaved = 0;
    private int savedCount = 0;
    private final char[] buffer = new char[BUFFER_SIZE];
    private int bufferLength = 0;
    private final PinReader reader = new PinReader();

    public PinCylinder() {
        for (int i = 0; i < STATES_SAVED; i++) {
            saved[i] = new State();
        }
    }

    // ---- pins

    public int pin(int tune, int tooth, int step) throws IndexOutOfBoundsException, IllegalStateException {
        if (!isPlace(tune, tooth, step)) {
            throw new IndexOutOfBoundsException("no such tune, tooth or step");
        }
        if (state.hindrance(tune, tooth, step) != 0) {
            throw new IllegalStateException("the pin cannot be set");
        }
        saveState();
        state.putPin(tune, tooth, step);
        return state.pinsOf(tune);
    }

    public int pull(int tune, int tooth, int from, int to)
            throws IndexOutOfBoundsException, IllegalArgumentException {
        if (!isPlace(tune, tooth, from) || !isBelow(to, STEPS)) {
            throw new IndexOutOfBoundsException("no such tune, tooth or step");
        }
        if (to < from) {
            throw new IllegalArgumentException("to is less than from");
        }
        saveState();
        return state.takeRange(tune, tooth, from, to);
    }

    public int copy(int from, int to, int steps, int teeth)
            throws IndexOutOfBoundsException, IllegalArgumentException {
        if (!isBelow(from, TUNES) || !isBelow(to, TUNES)) {
            throw new IndexOutOfBoundsException("no such tune");
        }
        if (from == to || !isWithin(steps, 1 - STEPS, STEPS - 1) || !isWithin(teeth, 1 - TEETH, TEETH - 1)) {
            throw new IllegalArgumentException("the same tune, or steps or teeth out of range");
        }
        saveState();
        state.replaceTune(from, to, steps, teeth);
        return state.pinsOf(to);
    }

    // ---- playing

    public int wind(int turns) throws IllegalArgumentException {
        if (!isWithin(turns, 1, MOST_WIND)) {
            throw new IllegalArgumentException("turns out of range");
        }
        saveState();
        state.wind = Math.min(MOST_WIND, state.wind + turns);
        return state.wind;
    }

    public int vanes(int vanes) throws IllegalArgumentException {
        if (!isWithin(vanes, 1, MOST_VANES)) {
            throw new IllegalArgumentException("vanes out of range");
        }
        saveState();
        int previous = state.vanes;
        state.vanes = vanes;
        return previous;
    }

    public int shift(int tune) throws IndexOutOfBoundsException {
        if (!isBelow(tune, TUNES)) {
            throw new IndexOutOfBoundsException("no such tune");
        }
        saveState();
        int previous = state.played;
        state.played = tune;
        return previous;
    }

    public int play(int steps) throws IllegalArgumentException {
        if (!isWithin(steps, 1, MOST_PLAYED)) {
            throw new IllegalArgumentException("steps out of range");
        }
        saveState();
        return state.goOnFor(steps);
    }

    public int mend(int tooth) throws IndexOutOfBoundsException {
        if (!isBelow(tooth, TEETH)) {
            throw new IndexOutOfBoundsException("no such tooth");
        }
        saveState();
        return state.mendTooth(tooth);
    }

    public int set(int setting, int value) throws IndexOutOfBoundsException, IllegalArgumentException {
        if (!isBelow(setting, SETTINGS)) {
            throw new IndexOutOfBoundsException("no such setting");
        }
        if (!isWithin(value, LEAST_VALUE[setting], MOST_VALUE[setting])) {
            throw new IllegalArgumentException("value out of range");
        }
        saveState();
        int previous = state.settings[setting];
        state.settings[setting] = value;
        return previous;
    }

    // ---- texts

    public int append(int code) throws IllegalArgumentException, IllegalStateException {
        if (!isWithin(code, 33, 126)) {
            throw new IllegalArgumentException("code out of range");
        }
        if (bufferLength >= BUFFER_SIZE) {
            throw new IllegalStateException("the buffer is full");
        }
        buffer[bufferLength] = (char) code;
        bufferLength++;
        return bufferLength;
    }

    public int clearBuffer() {
        int previous = bufferLength;
        bufferLength = 0;
        return previous;
    }

    public int firstError() {
        return readBuffer();
    }

    public int pins() throws IllegalArgumentException {
        int readable = readBuffer();
        if (readable < bufferLength || !reader.isComplete()) {
            throw new IllegalArgumentException("the buffer is not complete pins");
        }
        saveState();
        int done = putBufferPins();
        bufferLength = 0;
        return done;
    }

    // ---- undo, the snapshot

    public int undo() throws IllegalStateException {
        if (savedCount == 0) {
            throw new IllegalStateException("no saved state");
        }
        savedCount--;
        state.become(saved[(oldestSaved + savedCount) % STATES_SAVED]);
        return savedCount;
    }

    public int keep() {
        snapshot.become(state);
        hasSnapshot = true;
        return state.pinsOfAll();
    }

    public int restore() throws IllegalStateException {
        if (!hasSnapshot) {
            throw new IllegalStateException("no snapshot");
        }
        saveState();
        state.become(snapshot);
        return state.pinsOfAll();
    }

    // ---- looks; nothing is changed

    public int whyNot(int tune, int tooth, int step) throws IndexOutOfBoundsException {
        if (!isPlace(tune, tooth, step)) {
            throw new IndexOutOfBoundsException("no such tune, tooth or step");
        }
        return state.hindrance(tune, tooth, step);
    }

    public int next(int tune, int tooth, int step) throws IndexOutOfBoundsException {
        if (!isPlace(tune, tooth, step)) {
            throw new IndexOutOfBoundsException("no such tune, tooth or step");
        }
        return state.pinFrom(tune, tooth, step);
    }

    public int tune(int tune, int what) throws IndexOutOfBoundsException, IllegalArgumentException {
        if (!isBelow(tune, TUNES)) {
            throw new IndexOutOfBoundsException("no such tune");
        }
        if (!isBelow(what, TUNE_NUMBERS)) {
            throw new IllegalArgumentException("what is not 0 to 4");
        }
        return state.numberOfTune(tune, what);
    }

    public int chord(int tune, int step) throws IndexOutOfBoundsException {
        if (!isBelow(tune, TUNES) || !isBelow(step, STEPS)) {
            throw new IndexOutOfBoundsException("no such tune or step");
        }
        return state.teethAt(tune, step);
    }

    public int tooth(int tooth, int what) throws IndexOutOfBoundsException, IllegalArgumentException {
        if (!isBelow(tooth, TEETH)) {
            throw new IndexOutOfBoundsException("no such tooth");
        }
        if (!isBelow(what, TOOTH_NUMBERS)) {
            throw new IllegalArgumentException("what is not 0 to 4");
        }
        return state.numberOfTooth(tooth, what);
    }

    public int note(int back, int what) throws IllegalArgumentException {
        if (!isBelow(back, NOTES_KEPT) || !isBelow(what, 2)) {
            throw new IllegalArgumentException("back out of range, or what is neither 0 nor 1");
        }
        if (back >= state.notesKept()) {
            return NONE;
        }
        return what == 0 ? state.noteTooth(back) : state.noteTime(back);
    }

    public int count(int what) throws IllegalArgumentException {
        if (!isBelow(what, COUNTS)) {
            throw new IllegalArgumentException("what is not 0 to 17");
        }
        return numberNow(what);
    }

    // ---- what would be; nothing is changed

    public int ifPlayed(int steps, int what) throws IllegalArgumentException {
        if (!isWithin(steps, 1, MOST_PLAYED) || !isBelow(what, OUTCOMES)) {
            throw new IllegalArgumentException("steps out of range, or what is not 0 to 4");
        }
        tryOut(steps, state.vanes);
        return outcome(what);
    }

    public int fewestVanes() {
        return fewestQuietVanes();
    }

    public int windFor(int turns) throws IllegalArgumentException {
        if (!isWithin(turns, 1, MOST_TURNS)) {
            throw new IllegalArgumentException("turns out of range");
        }
        return state.windOfSteps(turns * STEPS);
    }

    public double clean() {
        return cleanShare();
    }

    public long digest() {
        long hash = HASH_START;
        for (int what = 0; what < COUNTS; what++) {
            hash = mixed(hash, numberNow(what));
        }
        hash = mixedTunes(hash);
        hash = mixedTeeth(hash);
        hash = mixedNotes(hash);
        hash = mixedOutcomes(hash);
        hash = mixed(hash, fewestQuietVanes());
        hash = mixed(hash, state.windOfSteps(2 * STEPS));
        hash = mixed(hash, bitsOfShare(cleanShare()));
        return mixedBuffer(hash);
    }

    // ---- arguments

    private static boolean isWithin(int value, int least, int most) {
        return value >= least && value <= most;
    }

    private static boolean isBelow(int value, int limit) {
        return value >= 0 && value < limit;
    }

    private static boolean isPlace(int tune, int tooth, int step) {
        return isBelow(tune, TUNES) && isBelow(tooth, TEETH) && isBelow(step, STEPS);
    }

    // ---- saved states

    private void saveState() {
        saved[(oldestSaved + savedCount) % STATES_SAVED].become(state);
        if (savedCount < STATES_SAVED) {
            savedCount++;
        } else {
            oldestSaved = (oldestSaved + 1) % STATES_SAVED;
        }
    }

    // ---- the buffer

    /** Returns how many characters the reader takes before a syntax error; the reader stands behind them then. */
    private int readBuffer() {
        reader.start();
        for (int i = 0; i < bufferLength; i++) {
            if (!reader.accepts(buffer[i])) {
                return i;
            }
        }
        return bufferLength;
    }

    /** Sets the pins of a buffer that is known to be complete. */
    private int putBufferPins() {
        int done = 0;
        reader.start();
        for (int i = 0; i < bufferLength; i++) {
            if (PinReader.isSeparator(buffer[i])) {
                done += putReadRange();
            }
            reader.accepts(buffer[i]);
        }
        return done + putReadRange();
    }

    private int putReadRange() {
        return state.putRange(reader.tune, reader.tooth, reader.rangeStart(), reader.number);
    }

    // ---- what would be

    private void tryOut(int steps, int vanes) {
        trial.become(state);
        trial.vanes = vanes;
        trial.goOnFor(steps);
    }

    /** Tells what the latest trial brought. */
    private int outcome(int what) {
        switch (what) {
            case 0:
                return trial.stepsDone - state.stepsDone;
            case 1:
                return trial.notes - state.notes;
            case 2:
                return trial.squeaks - state.squeaks;
            case 3:
                return trial.time - state.time;
            default:
                return trial.teethBroken() - state.teethBroken();
        }
    }

    private int fewestQuietVanes() {
        for (int vanes = 1; vanes <= MOST_VANES; vanes++) {
            tryOut(STEPS, vanes);
            if (trial.squeaks == state.squeaks) {
                return vanes;
            }
        }
        return NONE;
    }

    // ---- numbers of the whole

    private int numberNow(int what) {
        return what == COUNTS - 1 ? savedCount : state.numberOfState(what);
    }

    private double cleanShare() {
        if (state.notes <= 0) {
            return 1.0;
        }
        return (double) Math.max(0, state.notes - state.squeaks) / (double) state.notes;
    }

    /** The bits of a double from 0 to 1, by arithmetic alone, as the language has no call for them. */
    private static long bitsOfShare(double share) {
        if (share <= 0.0) {
            return 0L;
        }
        double scaled = share;
        long exponent = DOUBLE_BIAS;
        for (int i = 1; i < DOUBLE_BIAS && scaled < 1.0; i++) {
            scaled = scaled * 2.0;
            exponent--;
        }
        return (exponent << FRACTION_BITS) + (long) ((scaled - 1.0) * (double) FRACTION_UNITS);
    }

    // ---- the digest

    private static long mixed(long hash, long value) {
        return 31L * hash + value;
    }

    private long mixedTunes(long hash) {
        long result = hash;
        for (int tune = 0; tune < TUNES; tune++) {
            for (int what = 0; what < TUNE_NUMBERS; what++) {
                result = mixed(result, state.numberOfTune(tune, what));
            }
            for (int step = 0; step < STEPS; step++) {
                result = mixed(result, state.teethAt(tune, step));
            }
        }
        return result;
    }

    private long mixedTeeth(long hash) {
        long result = hash;
        for (int tooth = 0; tooth < TEETH; tooth++) {
            for (int what = 0; what < TOOTH_NUMBERS; what++) {
                result = mixed(result, state.numberOfTooth(tooth, what));
            }
        }
        return result;
    }

    private long mixedNotes(long hash) {
        long result = hash;
        int kept = state.notesKept();
        for (int back = 0; back < kept; back++) {
            result = mixed(result, state.noteTooth(back));
            result = mixed(result, state.noteTime(back));
        }
        return result;
    }

    private long mixedOutcomes(long hash) {
        long result = hash;
        tryOut(40, state.vanes);
        for (int what = 0; what < OUTCOMES; what++) {
            result = mixed(result, outcome(what));
        }
        return result;
    }

    private long mixedBuffer(long hash) {
        long result = mixed(hash, bufferLength);
        for (int i = 0; i < bufferLength; i++) {
            result = mixed(result, buffer[i]);
        }
        return result;
    }

    /** All that undo brings back: the pins, the comb, the drive, the settings, and what is counted so far. */
    private static final class State {
        private final int[] chords = new int[TUNES * STEPS];
        /** A tooth rings while its time here is still to come: so a step need not count every tooth down. */
        private final int[] restsAt = new int[TEETH];
        private final int[] wear = new int[TEETH];
        private final int[] notesOf = new int[TEETH];
        private final int[] keptTeeth = new int[NOTES_KEPT];
        private final int[] keptTimes = new int[NOTES_KEPT];
        private final int[] settings = {40, 6, 0, 1, 6};
        private int broken = 0;
        private int place = STEPS - 1;
        private int played = 0;
        private int wind = 0;
        private int vanes = 5;
        private int time = 0;
        private int stepsDone = 0;
        private int notes = 0;
        private int squeaks = 0;
        private int windNeeded = 0;

        void become(State other) {
            System.arraycopy(other.chords, 0, chords, 0, TUNES * STEPS);
            System.arraycopy(other.restsAt, 0, restsAt, 0, TEETH);
            System.arraycopy(other.wear, 0, wear, 0, TEETH);
            System.arraycopy(other.notesOf, 0, notesOf, 0, TEETH);
            System.arraycopy(other.keptTeeth, 0, keptTeeth, 0, NOTES_KEPT);
            System.arraycopy(other.keptTimes, 0, keptTimes, 0, NOTES_KEPT);
            System.arraycopy(other.settings, 0, settings, 0, SETTINGS);
            broken = other.broken;
            place = other.place;
            played = other.played;
            wind = other.wind;
            vanes = other.vanes;
            time = other.time;
            stepsDone = other.stepsDone;
            notes = other.notes;
            squeaks = other.squeaks;
            windNeeded = other.windNeeded;
        }

        // ---- pins

        int teethAt(int tune, int step) {
            return chords[tune * STEPS + step];
        }

        boolean hasPin(int tune, int tooth, int step) {
            return (teethAt(tune, step) >> tooth & 1) != 0;
        }

        void putPin(int tune, int tooth, int step) {
            chords[tune * STEPS + step] |= 1 << tooth;
        }

        /** Returns the reason why a pin cannot be set, 1 to 3; 0 if it can. */
        int hindrance(int tune, int tooth, int step) {
            if (hasPin(tune, tooth, step)) {
                return 1;
            }
            for (int apart = 1; apart < settings[APART]; apart++) {
                if (hasPin(tune, tooth, around(step + apart)) || hasPin(tune, tooth, around(step - apart))) {
                    return 2;
                }
            }
            return Integer.bitCount(teethAt(tune, step)) >= settings[IN_A_STEP] ? 3 : 0;
        }

        int putRange(int tune, int tooth, int from, int to) {
            int done = 0;
            for (int step = from; step <= to; step++) {
                if (hindrance(tune, tooth, step) == 0) {
                    putPin(tune, tooth, step);
                    done++;
                }
            }
            return done;
        }

        int takeRange(int tune, int tooth, int from, int to) {
            int taken = 0;
            for (int step = from; step <= to; step++) {
                if (hasPin(tune, tooth, step)) {
                    chords[tune * STEPS + step] &= ~(1 << tooth);
                    taken++;
                }
            }
            return taken;
        }

        void replaceTune(int from, int to, int steps, int teeth) {
            int wholeComb = (1 << TEETH) - 1;
            for (int step = 0; step < STEPS; step++) {
                int pins = teethAt(from, step);
                int moved = teeth >= 0 ? pins << teeth : pins >> -teeth;
                chords[to * STEPS + around(step + steps)] = moved & wholeComb;
            }
        }

        int pinFrom(int tune, int tooth, int step) {
            for (int i = 0; i < STEPS; i++) {
                int looked = around(step + i);
                if (hasPin(tune, tooth, looked)) {
                    return looked;
                }
            }
            return NONE;
        }

        // ---- the drive

        int goOnFor(int steps) {
            for (int i = 0; i < steps; i++) {
                if (!goOn()) {
                    return i;
                }
            }
            return steps;
        }

        /** Goes on by a step; returns false, and changes nothing, if it has run down. */
        private boolean goOn() {
            int step = around(place + 1);
            int tune = tuneComing(played, step);
            int struck = teethAt(tune, step) & ~broken;
            int needed = windOfStep(tune, step);
            if (wind < needed) {
                return false;
            }
            place = step;
            played = tune;
            wind -= needed;
            windNeeded += needed;
            int ticks = Math.max(2, 12 - wind / 50 + vanes);
            time += ticks;
            stepsDone++;
            for (int tooth = 0; tooth < TEETH; tooth++) {
                if ((struck >> tooth & 1) != 0) {
                    strike(tooth, ticks);
                }
            }
            return true;
        }

        private int tuneComing(int tune, int step) {
            return step == 0 && settings[SHIFTING] != 0 ? (tune + 1) % TUNES : tune;
        }

        private int windOfStep(int tune, int step) {
            return 1 + Integer.bitCount(teethAt(tune, step) & ~broken);
        }

        int windOfSteps(int steps) {
            int needed = 0;
            int step = place;
            int tune = played;
            for (int i = 0; i < steps; i++) {
                step = around(step + 1);
                tune = tuneComing(tune, step);
                needed += windOfStep(tune, step);
            }
            return needed;
        }

        private static int around(int step) {
            return Math.floorMod(step, STEPS);
        }

        // ---- the comb

        private void strike(int tooth, int ticks) {
            boolean dampedInTime = ticks > settings[DAMPING] + wear[tooth];
            if (ringsFor(tooth) > 0 && !dampedInTime) {
                squeak(tooth);
            }
            if (!isBroken(tooth)) {
                pluck(tooth);
            }
        }

        private void squeak(int tooth) {
            squeaks++;
            if (wear[tooth] < MOST_WEAR) {
                wear[tooth]++;
            } else {
                broken |= 1 << tooth;
                restsAt[tooth] = time;
            }
        }

        private void pluck(int tooth) {
            restsAt[tooth] = time + Math.max(4, settings[RINGING] - 2 * tooth);
            notesOf[tooth]++;
            int slot = Math.floorMod(notes, NOTES_KEPT);
            keptTeeth[slot] = tooth;
            keptTimes[slot] = time;
            notes++;
        }

        int mendTooth(int tooth) {
            int previous = wear[tooth];
            wear[tooth] = 0;
            broken &= ~(1 << tooth);
            restsAt[tooth] = time;
            return previous;
        }

        private boolean isBroken(int tooth) {
            return (broken >> tooth & 1) != 0;
        }

        private int ringsFor(int tooth) {
            return Math.max(0, restsAt[tooth] - time);
        }

        int teethBroken() {
            return Integer.bitCount(broken);
        }

        private int teethRinging() {
            int ringing = 0;
            for (int tooth = 0; tooth < TEETH; tooth++) {
                if (ringsFor(tooth) > 0) {
                    ringing++;
                }
            }
            return ringing;
        }

        // ---- notes

        int notesKept() {
            return Math.min(NOTES_KEPT, notes);
        }

        int noteTooth(int back) {
            return keptTeeth[slotOf(back)];
        }

        int noteTime(int back) {
            return keptTimes[slotOf(back)];
        }

        private int slotOf(int back) {
            return Math.floorMod(notes - 1 - back, NOTES_KEPT);
        }

        // ---- numbers

        int pinsOf(int tune) {
            int pins = 0;
            for (int step = 0; step < STEPS; step++) {
                pins += Integer.bitCount(teethAt(tune, step));
            }
            return pins;
        }

        int pinsOfAll() {
            int pins = 0;
            for (int tune = 0; tune < TUNES; tune++) {
                pins += pinsOf(tune);
            }
            return pins;
        }

        private int pinsByTooth(int tune) {
            int pins = 0;
            for (int tooth = 0; tooth < TEETH; tooth++) {
                for (int step = 0; step < STEPS; step++) {
                    if (hasPin(tune, tooth, step)) {
                        pins++;
                    }
                }
            }
            return pins;
        }

        private int fullestStep(int tune) {
            int fullest = 0;
            for (int step = 1; step < STEPS; step++) {
                if (Integer.bitCount(teethAt(tune, step)) > Integer.bitCount(teethAt(tune, fullest))) {
                    fullest = step;
                }
            }
            return fullest;
        }

        private int teethUsed(int tune) {
            int used = 0;
            for (int step = 0; step < STEPS; step++) {
                used |= teethAt(tune, step);
            }
            return used;
        }

        /** The most steps from a pin of a tooth to its next one around; a single pin is its own next one. */
        private int widestGap(int tune, int tooth) {
            int first = NONE;
            int latest = NONE;
            int widest = 0;
            for (int step = 0; step < STEPS; step++) {
                if (hasPin(tune, tooth, step)) {
                    if (first == NONE) {
                        first = step;
                    } else {
                        widest = Math.max(widest, step - latest);
                    }
                    latest = step;
                }
            }
            return first == NONE ? 0 : Math.max(widest, first + STEPS - latest);
        }

        int numberOfTune(int tune, int what) {
            switch (what) {
                case 0:
                    return pinsOf(tune);
                case 1:
                    return pinsByTooth(tune);
                case 2:
                    return Integer.bitCount(teethAt(tune, fullestStep(tune)));
                case 3:
                    return fullestStep(tune);
                default:
                    return teethUsed(tune);
            }
        }

        int numberOfTooth(int tooth, int what) {
            switch (what) {
                case 0:
                    return ringsFor(tooth);
                case 1:
                    return wear[tooth];
                case 2:
                    return isBroken(tooth) ? 1 : 0;
                case 3:
                    return notesOf[tooth];
                default:
                    return widestGap(played, tooth);
            }
        }

        /** The numbers 0 to 16 of the call count. */
        int numberOfState(int what) {
            switch (what) {
                case 0:
                    return place;
                case 1:
                    return played;
                case 2:
                    return wind;
                case 3:
                    return vanes;
                case 4:
                    return time;
                case 5:
                    return stepsDone;
                case 6:
                    return notes;
                case 7:
                    return squeaks;
                case 8:
                    return teethRinging();
                case 9:
                    return teethBroken();
                case 10:
                    return pinsOfAll();
                case 11:
                    return windNeeded;
                default:
                    return settings[Math.floorMod(what - 12, SETTINGS)];
            }
        }
    }

    /** Reads pins as a text from left to right, and refuses a character that none could go on with. */
    private static final class PinReader {
        private static final int AT_TUNE = 0;
        private static final int BEHIND_TUNE = 1;
        private static final int AT_TOOTH = 2;
        private static final int IN_TOOTH = 3;
        private static final int AT_STEP = 4;
        private static final int IN_STEP = 5;
        private static final int AT_RANGE_END = 6;
        private static final int IN_RANGE_END = 7;

        private int phase = AT_TUNE;
        private int tune = 0;
        private int tooth = 0;
        private int from = 0;
        /** The step that is read at the moment: a single one, or the end of a range. */
        private int number = 0;

        void start() {
            phase = AT_TUNE;
        }

        static boolean isSeparator(char sign) {
            return sign == ',' || sign == ';';
        }

        /** Takes a character, if some pins as a text go on with it. */
        boolean accepts(char sign) {
            switch (phase) {
                case AT_TUNE:
                    return acceptsTune(sign);
                case BEHIND_TUNE:
                    return sign == '/' && goTo(AT_TOOTH);
                case AT_TOOTH:
                    return acceptsToothDigit(sign);
                case IN_TOOTH:
                    return sign == ':' ? goTo(AT_STEP) : acceptsToothEnd(sign);
                case AT_STEP:
                    return acceptsStepDigit(sign);
                case IN_STEP:
                    return acceptsBehindStep(sign);
                case AT_RANGE_END:
                    return acceptsRangeEndDigit(sign);
                default:
                    return acceptsBehindRangeEnd(sign);
            }
        }

        boolean isComplete() {
            return phase == IN_STEP || (phase == IN_RANGE_END && number > from);
        }

        int rangeStart() {
            return phase == IN_RANGE_END ? from : number;
        }

        private boolean goTo(int coming) {
            phase = coming;
            return true;
        }

        private static int digitOf(char sign) {
            return sign >= '0' && sign <= '9' ? sign - '0' : NONE;
        }

        private boolean acceptsTune(char sign) {
            int digit = digitOf(sign);
            if (digit < 0 || digit >= TUNES) {
                return false;
            }
            tune = digit;
            return goTo(BEHIND_TUNE);
        }

        private boolean acceptsToothDigit(char sign) {
            int digit = digitOf(sign);
            if (digit < 0) {
                return false;
            }
            tooth = digit;
            return goTo(IN_TOOTH);
        }

        private boolean acceptsToothEnd(char sign) {
            int longer = lengthened(tooth, sign);
            if (longer < 0 || longer >= TEETH) {
                return false;
            }
            tooth = longer;
            return true;
        }

        private boolean acceptsStepDigit(char sign) {
            int digit = digitOf(sign);
            if (digit < 0) {
                return false;
            }
            number = digit;
            return goTo(IN_STEP);
        }

        private boolean acceptsBehindStep(char sign) {
            if (isSeparator(sign)) {
                return acceptsSeparator(sign);
            }
            if (sign == '-') {
                return acceptsRange();
            }
            int longer = lengthened(number, sign);
            if (longer < 0 || longer >= STEPS) {
                return false;
            }
            number = longer;
            return true;
        }

        private boolean acceptsRange() {
            if (number >= STEPS - 1) {
                return false;
            }
            from = number;
            return goTo(AT_RANGE_END);
        }

        private boolean acceptsRangeEndDigit(char sign) {
            int digit = digitOf(sign);
            if (digit < 0 || greatestFrom(digit) <= from) {
                return false;
            }
            number = digit;
            return goTo(IN_RANGE_END);
        }

        private boolean acceptsBehindRangeEnd(char sign) {
            if (isSeparator(sign)) {
                return number > from && acceptsSeparator(sign);
            }
            int longer = lengthened(number, sign);
            if (longer <= from || longer >= STEPS) {
                return false;
            }
            number = longer;
            return true;
        }

        private boolean acceptsSeparator(char sign) {
            return goTo(sign == ',' ? AT_STEP : AT_TUNE);
        }

        /** Returns the number with one more digit; NONE if that would have a leading zero, or is no digit. */
        private static int lengthened(int number, char sign) {
            int digit = digitOf(sign);
            return number == 0 || digit < 0 ? NONE : number * 10 + digit;
        }

        /** Returns the greatest step whose first digit is this one. */
        private static int greatestFrom(int digit) {
            boolean hasLonger = digit > 0 && digit * 10 < STEPS;
            return hasLonger ? Math.min(STEPS - 1, digit * 10 + 9) : digit;
        }
    }
}
