/** Four strings over a neck with frets: the calls check what they are given, and the classes inside do the rest. */
public final class FrettedStrings {
    public static final int INVALID_ARGUMENT = -1;
    public static final int NOT_POSSIBLE = -2;
    public static final int LIMIT_REACHED = -3;
    public static final int NOT_FOUND = -4;

    private static final int STRINGS = 4;
    private static final int MODES = 12;
    private static final int FRETS = 12;
    private static final int BRIDGE = 2520;
    private static final int BRIDGE_HEIGHT = 1500;
    private static final int LAST_FRET_POSITION = 2400;
    private static final int MOST_HEIGHT = 2000;
    private static final int LEAST_TENSION = 1000;
    private static final int MOST_TENSION = 100000000;
    private static final int MOST_FORCE = 1000;
    private static final int MOST_AMPLITUDE = 1000000;
    private static final int PLAYING_POSITION = 2460;
    private static final int MOST_TICKS_AT_ONCE = 500;
    private static final int MOST_TICKS = 100000;
    private static final int MOST_TICKS_AHEAD = 2000;
    private static final int MOST_STATES = 4;
    private static final int MOST_CHARACTERS = 80;

    private static final int LOSS = 0;
    private static final int LOSS_OF_HIGHER = 1;
    private static final int DAMPING = 2;
    private static final int WEAR_FOR_A_MICROMETRE = 3;
    private static final int HEARING = 4;
    private static final int[] LEAST_OF_SETTING = {0, 0, 0, 1, 0};
    private static final int[] MOST_OF_SETTING = {1000, 100, 1000, 1000000, 100000};

    private static final int NO_FAULT = 0;
    private static final int FAULT_OF_FORM = 1;
    private static final int FAULT_OF_FRET = 2;
    private static final int FAULT_OF_RANGE = 3;
    private static final int FAULT_OF_TICKS = 4;

    private final State now = new State();
    private final History history = new History();
    private final Score score = new Score();

    public FrettedStrings() {
    }

    // ---- frets

    public int fret(int position, int height) {
        if (!isWithin(position, 1, LAST_FRET_POSITION) || !isWithin(height, 0, MOST_HEIGHT)) {
            return INVALID_ARGUMENT;
        }
        if (now.neck.isTaken(position)) {
            return NOT_POSSIBLE;
        }
        if (now.neck.frets >= FRETS) {
            return LIMIT_REACHED;
        }
        history.keep(now);
        return now.insertFret(position, height);
    }

    public int level(int fret, int height) {
        if (!now.neck.has(fret) || !isWithin(height, 0, MOST_HEIGHT)) {
            return INVALID_ARGUMENT;
        }
        int lower = now.neck.heightOf(fret) - height;
        if (lower < 0) {
            return NOT_POSSIBLE;
        }
        history.keep(now);
        now.neck.file(fret, height);
        now.settle();
        return lower;
    }

    public int fretInfo(int fret, int what) {
        if (!now.neck.has(fret)) {
            return INVALID_ARGUMENT;
        }
        switch (what) {
            case 0:
                return now.neck.positionOf(fret);
            case 1:
                return now.neck.heightOf(fret);
            case 2:
                return now.neck.wearOf(fret);
            case 3:
                return now.strings.maskPressedAt(fret);
            case 4:
                return now.strings.maskSoundingFrom(fret);
            case 5:
                return now.neck.sourceFor(fret);
            default:
                return INVALID_ARGUMENT;
        }
    }

    public int mostFor(int fret) {
        return now.neck.has(fret) ? now.neck.mostHeightFor(fret) : INVALID_ARGUMENT;
    }

    // ---- strings

    public int tune(int string, int tension) {
        if (!isString(string) || !isWithin(tension, LEAST_TENSION, MOST_TENSION)) {
            return INVALID_ARGUMENT;
        }
        history.keep(now);
        int previous = now.strings.tension[string];
        now.strings.tension[string] = tension;
        return previous;
    }

    public int press(int string, int fret) {
        if (!isString(string) || !now.neck.isNumberOrOpen(fret)) {
            return INVALID_ARGUMENT;
        }
        history.keep(now);
        now.pressAt(string, fret);
        return now.strings.soundingLength(string);
    }

    public int touch(int string, int position) {
        if (!isString(string) || !isWithin(position, 0, BRIDGE - 1)) {
            return INVALID_ARGUMENT;
        }
        history.keep(now);
        int previous = now.strings.finger[string];
        now.strings.finger[string] = position;
        return previous;
    }

    public int pluck(int string, int position, int force) {
        if (!isString(string) || !isPlace(position) || !isWithin(force, 1, MOST_FORCE)) {
            return INVALID_ARGUMENT;
        }
        if (position <= now.strings.start[string]) {
            return NOT_POSSIBLE;
        }
        history.keep(now);
        now.pluckAt(string, position, force);
        return now.heardOf(string);
    }

    public int damp(int string) {
        if (!isString(string)) {
            return INVALID_ARGUMENT;
        }
        history.keep(now);
        int heard = now.heardOf(string);
        now.strings.quieten(string);
        return heard;
    }

    public int stringInfo(int string, int what) {
        if (!isString(string)) {
            return INVALID_ARGUMENT;
        }
        switch (what) {
            case 0:
                return now.strings.tension[string];
            case 1:
                return now.strings.pressed[string];
            case 2:
                return now.strings.source[string];
            case 3:
                return now.strings.buzzes(string) ? 1 : 0;
            case 4:
                return now.strings.soundingLength(string);
            case 5:
                return now.strings.finger[string];
            case 6:
                return now.maskHeard(string);
            case 7:
                return now.strings.sumOfAmplitudes(string);
            case 8:
                return now.strings.plucks[string];
            default:
                return INVALID_ARGUMENT;
        }
    }

    public int modeInfo(int string, int mode, int what) {
        if (!isString(string) || !isMode(mode)) {
            return INVALID_ARGUMENT;
        }
        switch (what) {
            case 0:
                return now.strings.amplitudeOf(string, mode);
            case 1:
                return now.strings.pitchOf(string, mode);
            case 2:
                return now.strings.wholeNodes(string, mode);
            default:
                return INVALID_ARGUMENT;
        }
    }

    public int node(int string, int mode, int position) {
        if (!isString(string) || !isMode(mode) || !isPlace(position)) {
            return INVALID_ARGUMENT;
        }
        if (position <= now.strings.start[string]) {
            return NOT_FOUND;
        }
        return now.strings.distanceFromNode(string, mode, position) == 0 ? 1 : 0;
    }

    public int nodeAgain(int string, int mode, int position) {
        if (!isString(string) || !isMode(mode) || !isPlace(position)) {
            return INVALID_ARGUMENT;
        }
        if (position <= now.strings.start[string]) {
            return NOT_FOUND;
        }
        return now.strings.hasNodeByDivisor(string, mode, position) ? 1 : 0;
    }

    // ---- time, beats

    public int set(int what, int value) {
        if (!isWithin(what, 0, MOST_OF_SETTING.length - 1)
                || !isWithin(value, LEAST_OF_SETTING[what], MOST_OF_SETTING[what])) {
            return INVALID_ARGUMENT;
        }
        history.keep(now);
        int previous = now.settings[what];
        now.settings[what] = value;
        return previous;
    }

    public int run(int ticks) {
        if (!isWithin(ticks, 1, MOST_TICKS_AT_ONCE)) {
            return INVALID_ARGUMENT;
        }
        if (now.ticks + ticks > MOST_TICKS) {
            return LIMIT_REACHED;
        }
        history.keep(now);
        now.letGoBy(ticks);
        return now.heardInAll();
    }

    public int ticksTo(int string, int mode) {
        if (!isString(string) || !isMode(mode)) {
            return INVALID_ARGUMENT;
        }
        return now.ticksUntilUnheard(string, mode);
    }

    public int beat(int a, int n, int b, int m) {
        if (!isString(a) || !isMode(n) || !isString(b) || !isMode(m) || a == b) {
            return INVALID_ARGUMENT;
        }
        int difference = now.beatOf(a, n, b, m);
        return difference > 0 ? difference : NOT_FOUND;
    }

    public int slowest(int a, int b, int what) {
        if (!isString(a) || !isString(b) || a == b || !isWithin(what, 0, 2)) {
            return INVALID_ARGUMENT;
        }
        return now.slowestBeat(a, b, what);
    }

    public int played(int index, int what) {
        if (index < 0 || !isWithin(what, 0, 2)) {
            return INVALID_ARGUMENT;
        }
        if (index >= now.notes.size) {
            return NOT_FOUND;
        }
        switch (what) {
            case 0:
                return now.notes.stringOf(index);
            case 1:
                return now.notes.fretOf(index);
            default:
                return now.notes.timesOf(index);
        }
    }

    public int count(int what) {
        switch (what) {
            case 0:
                return now.neck.frets;
            case 1:
                return now.ticks;
            case 2:
                return now.heardInAll();
            case 3:
                return now.strings.buzzing();
            case 4:
                return now.notes.size;
            case 5:
                return now.strings.plucksInAll();
            case 6:
                return now.lost;
            case 7:
            case 8:
            case 9:
            case 10:
            case 11:
                return now.settings[what - 7];
            case 12:
                return history.size;
            case 13:
                return score.length;
            default:
                return INVALID_ARGUMENT;
        }
    }

    public int undo() {
        if (history.size < 1) {
            return NOT_POSSIBLE;
        }
        history.giveBack(now);
        return history.size;
    }

    // ---- texts

    public int type(int character) {
        if (!isWithin(character, 32, 126)) {
            return INVALID_ARGUMENT;
        }
        if (score.length >= MOST_CHARACTERS) {
            return LIMIT_REACHED;
        }
        score.append((char) character);
        return score.length;
    }

    public int clearText() {
        int previous = score.length;
        score.length = 0;
        return previous;
    }

    public int fault(int what) {
        if (!isWithin(what, 0, 1)) {
            return INVALID_ARGUMENT;
        }
        int reason = score.findFault(now.neck.frets, now.ticks);
        if (reason == NO_FAULT) {
            return NOT_FOUND;
        }
        return what == 0 ? score.faultPosition : reason;
    }

    public int play() {
        if (score.findFault(now.neck.frets, now.ticks) != NO_FAULT) {
            return NOT_POSSIBLE;
        }
        history.keep(now);
        int notes = 0;
        int from = 0;
        while (notes < MOST_CHARACTERS && score.readNote(from)) {
            now.pressAt(score.string, score.fret);
            now.pluckAt(score.string, PLAYING_POSITION, score.force);
            now.letGoBy(score.ticks);
            from = score.place;
            notes++;
        }
        return notes;
    }

    // ---- what arguments are looked at with

    private static boolean isWithin(int value, int least, int most) {
        return value >= least && value <= most;
    }

    private static boolean isString(int string) {
        return isWithin(string, 0, STRINGS - 1);
    }

    private static boolean isMode(int mode) {
        return isWithin(mode, 1, MODES);
    }

    private static boolean isPlace(int position) {
        return isWithin(position, 1, BRIDGE - 1);
    }

    private static int greatestCommonDivisor(int a, int b) {
        int divisor = a;
        int rest = b;
        // Euclid's steps on numbers up to 2520 are far fewer than this.
        for (int step = 0; step < 64 && rest > 0; step++) {
            int next = divisor % rest;
            divisor = rest;
            rest = next;
        }
        return divisor;
    }

    /** The frets in the order of their positions: the fret number f stands at the index f - 1. */
    private static final class Neck {
        int frets;
        final int[] positions = new int[FRETS];
        final int[] heights = new int[FRETS];
        final int[] wears = new int[FRETS];

        void copyFrom(Neck other) {
            frets = other.frets;
            System.arraycopy(other.positions, 0, positions, 0, FRETS);
            System.arraycopy(other.heights, 0, heights, 0, FRETS);
            System.arraycopy(other.wears, 0, wears, 0, FRETS);
        }

        boolean has(int fret) {
            return isWithin(fret, 1, frets);
        }

        boolean isNumberOrOpen(int fret) {
            return isWithin(fret, 0, frets);
        }

        /** The nut answers as the fret 0: an open string sounds from there. */
        int positionOf(int fret) {
            return has(fret) ? positions[fret - 1] : 0;
        }

        int heightOf(int fret) {
            return has(fret) ? heights[fret - 1] : 0;
        }

        int wearOf(int fret) {
            return has(fret) ? wears[fret - 1] : 0;
        }

        boolean isTaken(int position) {
            for (int fret = 1; fret <= frets; fret++) {
                if (positionOf(fret) == position) {
                    return true;
                }
            }
            return false;
        }

        int insert(int position, int height) {
            if (frets >= FRETS) {
                return 0;
            }
            int index = frets;
            while (index > 0 && positions[index - 1] > position) {
                positions[index] = positions[index - 1];
                heights[index] = heights[index - 1];
                wears[index] = wears[index - 1];
                index--;
            }
            positions[index] = position;
            heights[index] = height;
            wears[index] = 0;
            frets++;
            return index + 1;
        }

        void file(int fret, int height) {
            if (has(fret)) {
                heights[fret - 1] = height;
                wears[fret - 1] = 0;
            }
        }

        /** Answers how many micrometres the fret loses. */
        int wearBy(int fret, int force, int wearForOne) {
            if (!has(fret) || wearForOne < 1) {
                return 0;
            }
            int index = fret - 1;
            wears[index] += force;
            int lost = Math.max(0, Math.min(heights[index], wears[index] / wearForOne));
            wears[index] -= lost * wearForOne;
            heights[index] -= lost;
            return lost;
        }

        /** The height at a position of a string that is pressed at a fret. */
        int lineAt(int fret, int position) {
            int from = positionOf(fret);
            int height = heightOf(fret);
            int length = BRIDGE - from;
            if (length < 1) {
                return height;
            }
            // Behind a fret above the bridge the line falls, and is still rounded down.
            return height + Math.floorDiv((BRIDGE_HEIGHT - height) * (position - from), length);
        }

        /** The fret from which a string sounds that is pressed at a fret. */
        int sourceFor(int pressed) {
            if (!has(pressed)) {
                return 0;
            }
            int source = pressed;
            int most = 0;
            for (int fret = pressed + 1; fret <= frets; fret++) {
                int inTheWay = heightOf(fret) - lineAt(pressed, positionOf(fret));
                if (inTheWay > most) {
                    most = inTheWay;
                    source = fret;
                }
            }
            return source;
        }

        int mostHeightFor(int fret) {
            int most = MOST_HEIGHT;
            for (int ahead = 1; ahead < fret; ahead++) {
                most = Math.min(most, lineAt(ahead, positionOf(fret)));
            }
            return Math.max(0, most);
        }
    }

    /** The strings and their modes; who calls has looked at the numbers of both. */
    private static final class Strings {
        final int[] tension = {1000000, 1334000, 1780000, 2375000};
        final int[] pressed = new int[STRINGS];
        final int[] finger = new int[STRINGS];
        final int[] plucks = new int[STRINGS];
        // From which fret and position a string sounds follows from the frets; both are kept
        // so that a change of the position can be seen.
        final int[] source = new int[STRINGS];
        final int[] start = new int[STRINGS];
        final int[] amplitudes = new int[STRINGS * MODES];

        void copyFrom(Strings other) {
            System.arraycopy(other.tension, 0, tension, 0, STRINGS);
            System.arraycopy(other.pressed, 0, pressed, 0, STRINGS);
            System.arraycopy(other.finger, 0, finger, 0, STRINGS);
            System.arraycopy(other.plucks, 0, plucks, 0, STRINGS);
            System.arraycopy(other.source, 0, source, 0, STRINGS);
            System.arraycopy(other.start, 0, start, 0, STRINGS);
            System.arraycopy(other.amplitudes, 0, amplitudes, 0, STRINGS * MODES);
        }

        int soundingLength(int string) {
            return BRIDGE - start[string];
        }

        boolean buzzes(int string) {
            return source[string] != pressed[string];
        }

        int amplitudeOf(int string, int mode) {
            return amplitudes[string * MODES + mode - 1];
        }

        void setAmplitude(int string, int mode, int amplitude) {
            amplitudes[string * MODES + mode - 1] = amplitude;
        }

        int sumOfAmplitudes(int string) {
            int sum = 0;
            for (int mode = 1; mode <= MODES; mode++) {
                sum += amplitudeOf(string, mode);
            }
            return sum;
        }

        void quieten(int string) {
            for (int mode = 1; mode <= MODES; mode++) {
                setAmplitude(string, mode, 0);
            }
        }

        /** A string that comes to sound from another position rests. */
        void soundFrom(int string, int fret, int position) {
            if (start[string] != position) {
                quieten(string);
            }
            source[string] = fret;
            start[string] = position;
        }

        /** The strings stay at their frets, whose numbers grow where a new one stands ahead of them. */
        void makeRoomFor(int fret) {
            for (int string = 0; string < STRINGS; string++) {
                if (pressed[string] >= fret) {
                    pressed[string]++;
                }
            }
        }

        int maskPressedAt(int fret) {
            return maskOf(pressed, fret);
        }

        int maskSoundingFrom(int fret) {
            return maskOf(source, fret);
        }

        private static int maskOf(int[] fretsOfStrings, int fret) {
            int mask = 0;
            for (int string = 0; string < fretsOfStrings.length; string++) {
                if (fretsOfStrings[string] == fret) {
                    mask |= 1 << string;
                }
            }
            return mask;
        }

        int buzzing() {
            int sum = 0;
            for (int string = 0; string < STRINGS; string++) {
                sum += buzzes(string) ? 1 : 0;
            }
            return sum;
        }

        int plucksInAll() {
            int sum = 0;
            for (int string = 0; string < STRINGS; string++) {
                sum += plucks[string];
            }
            return sum;
        }

        int pitchOf(int string, int mode) {
            int length = soundingLength(string);
            return length < 1 ? 0 : mode * tension[string] / length;
        }

        int distanceFromNode(int string, int mode, int position) {
            int length = soundingLength(string);
            if (length < 1) {
                return 0;
            }
            int rest = Math.floorMod(mode * (position - start[string]), length);
            return Math.min(rest, length - rest);
        }

        boolean hasNodeByDivisor(int string, int mode, int position) {
            int length = soundingLength(string);
            int common = greatestCommonDivisor(length, position - start[string]);
            int step = common < 1 ? 0 : length / common;
            return step > 0 && mode % step == 0;
        }

        /** The nodes at whole positions are the multiples of length / divisor that are less than the length. */
        int wholeNodes(int string, int mode) {
            return greatestCommonDivisor(soundingLength(string), mode) - 1;
        }

        void wake(int string, int position, int force) {
            for (int mode = 1; mode <= MODES; mode++) {
                int distance = distanceFromNode(string, mode, position);
                int divisor = soundingLength(string) * mode;
                int more = divisor < 1 ? 0 : force * distance * 1000 / divisor;
                setAmplitude(string, mode, Math.min(MOST_AMPLITUDE, amplitudeOf(string, mode) + more));
            }
        }

        boolean isDamped(int string, int mode) {
            return finger[string] > start[string] && distanceFromNode(string, mode, finger[string]) != 0;
        }
    }

    /** The notes that were played, each a string and a fret's number, in the order of their first plucks. */
    private static final class Notes {
        private static final int NUMBERS = FRETS + 1;

        int size;
        final int[] order = new int[STRINGS * NUMBERS];
        final int[] times = new int[STRINGS * NUMBERS];

        void copyFrom(Notes other) {
            size = other.size;
            System.arraycopy(other.order, 0, order, 0, STRINGS * NUMBERS);
            System.arraycopy(other.times, 0, times, 0, STRINGS * NUMBERS);
        }

        void add(int string, int fret) {
            int note = string * NUMBERS + fret;
            if (note < 0 || note >= times.length) {
                return;
            }
            if (times[note] == 0 && size < order.length) {
                order[size] = note;
                size++;
            }
            times[note]++;
        }

        private int noteAt(int index) {
            return index >= 0 && index < size && index < order.length ? order[index] : 0;
        }

        int stringOf(int index) {
            return noteAt(index) / NUMBERS;
        }

        int fretOf(int index) {
            return noteAt(index) % NUMBERS;
        }

        int timesOf(int index) {
            int note = noteAt(index);
            return note >= 0 && note < times.length ? times[note] : 0;
        }
    }

    /** Everything that undo() brings back. */
    private static final class State {
        final Neck neck = new Neck();
        final Strings strings = new Strings();
        final Notes notes = new Notes();
        final int[] settings = {10, 5, 500, 1000, 50};
        int ticks;
        int lost;

        void copyFrom(State other) {
            neck.copyFrom(other.neck);
            strings.copyFrom(other.strings);
            notes.copyFrom(other.notes);
            System.arraycopy(other.settings, 0, settings, 0, settings.length);
            ticks = other.ticks;
            lost = other.lost;
        }

        int insertFret(int position, int height) {
            int number = neck.insert(position, height);
            strings.makeRoomFor(number);
            settle();
            return number;
        }

        void pressAt(int string, int fret) {
            strings.pressed[string] = fret;
            settle();
        }

        /** Behind every change of the frets, and of where they are pressed. */
        void settle() {
            for (int string = 0; string < STRINGS; string++) {
                int source = neck.sourceFor(strings.pressed[string]);
                strings.soundFrom(string, source, neck.positionOf(source));
            }
        }

        void pluckAt(int string, int position, int force) {
            int pressed = strings.pressed[string];
            int source = strings.source[string];
            strings.wake(string, position, force);
            strings.plucks[string]++;
            notes.add(string, pressed);
            lost += neck.wearBy(source, force, settings[WEAR_FOR_A_MICROMETRE]);
            if (source != pressed) {
                lost += neck.wearBy(pressed, force, settings[WEAR_FOR_A_MICROMETRE]);
            }
            settle();
        }

        boolean isHeard(int amplitude) {
            return amplitude > 0 && amplitude >= settings[HEARING];
        }

        int maskHeard(int string) {
            int mask = 0;
            for (int mode = 1; mode <= MODES; mode++) {
                if (isHeard(strings.amplitudeOf(string, mode))) {
                    mask |= 1 << (mode - 1);
                }
            }
            return mask;
        }

        int heardOf(int string) {
            return Integer.bitCount(maskHeard(string));
        }

        int heardInAll() {
            int sum = 0;
            for (int string = 0; string < STRINGS; string++) {
                sum += heardOf(string);
            }
            return sum;
        }

        int amplitudeAfterTick(int amplitude, int mode, boolean damped) {
            int left = amplitude;
            if (damped) {
                left -= left * settings[DAMPING] / 1000;
            }
            // At most 1000000 * 2100, which an int still holds.
            left -= left * (settings[LOSS] + settings[LOSS_OF_HIGHER] * (mode - 1)) / 1000;
            return left > 0 ? left - 1 : 0;
        }

        /** The modes fade apart from one another, so that each goes through all the ticks by itself. */
        void letGoBy(int more) {
            for (int string = 0; string < STRINGS; string++) {
                for (int mode = 1; mode <= MODES; mode++) {
                    boolean damped = strings.isDamped(string, mode);
                    int amplitude = strings.amplitudeOf(string, mode);
                    for (int tick = 0; tick < more && amplitude > 0; tick++) {
                        amplitude = amplitudeAfterTick(amplitude, mode, damped);
                    }
                    strings.setAmplitude(string, mode, amplitude);
                }
            }
            ticks += more;
        }

        int ticksUntilUnheard(int string, int mode) {
            boolean damped = strings.isDamped(string, mode);
            int amplitude = strings.amplitudeOf(string, mode);
            for (int tick = 0; tick <= MOST_TICKS_AHEAD; tick++) {
                if (!isHeard(amplitude)) {
                    return tick;
                }
                amplitude = amplitudeAfterTick(amplitude, mode, damped);
            }
            return NOT_FOUND;
        }

        /** The difference of the pitches, 0 where the modes do not beat. */
        int beatOf(int a, int n, int b, int m) {
            if (!isHeard(strings.amplitudeOf(a, n)) || !isHeard(strings.amplitudeOf(b, m))) {
                return 0;
            }
            return Math.abs(strings.pitchOf(a, n) - strings.pitchOf(b, m));
        }

        int slowestBeat(int a, int b, int what) {
            int least = 0;
            int modeOfA = 0;
            int modeOfB = 0;
            for (int n = 1; n <= MODES; n++) {
                for (int m = 1; m <= MODES; m++) {
                    int difference = beatOf(a, n, b, m);
                    if (difference > 0 && (least == 0 || difference < least)) {
                        least = difference;
                        modeOfA = n;
                        modeOfB = m;
                    }
                }
            }
            if (least == 0) {
                return NOT_FOUND;
            }
            return what == 0 ? least : what == 1 ? modeOfA : modeOfB;
        }
    }

    /** The latest states, in rows that are made once and used in turn. */
    private static final class History {
        int size;
        private int oldest;
        private final State[] rows = {new State(), new State(), new State(), new State()};

        void keep(State state) {
            if (size >= MOST_STATES) {
                oldest = (oldest + 1) % MOST_STATES;
                size = MOST_STATES - 1;
            }
            State row = rowAt(size);
            if (row != null) {
                row.copyFrom(state);
                size++;
            }
        }

        void giveBack(State state) {
            State row = rowAt(size - 1);
            if (row != null) {
                state.copyFrom(row);
                size--;
            }
        }

        private State rowAt(int age) {
            int index = (oldest + age) % MOST_STATES;
            return age >= 0 && index >= 0 && index < rows.length ? rows[index] : null;
        }
    }

    /** The text, with the note that was read last and the fault that was found last. */
    private static final class Score {
        int length;
        private final char[] characters = new char[MOST_CHARACTERS];

        int string;
        int fret;
        int force;
        int ticks;
        int place;
        private boolean ticksAreTold;
        int faultPosition;

        void append(char character) {
            if (length >= 0 && length < characters.length) {
                characters[length] = character;
                length++;
            }
        }

        int findFault(int frets, int ticksBefore) {
            int from = 0;
            int ticksInAll = ticksBefore;
            for (int notes = 0; notes < MOST_CHARACTERS && from < length; notes++) {
                int reason = reasonAt(from, frets, ticksInAll);
                if (reason != NO_FAULT) {
                    faultPosition = from;
                    return reason;
                }
                ticksInAll += ticks;
                from = place;
            }
            return NO_FAULT;
        }

        private int reasonAt(int from, int frets, int ticksBefore) {
            if (!readNote(from)) {
                return FAULT_OF_FORM;
            }
            if (fret > frets) {
                return FAULT_OF_FRET;
            }
            if (!isWithin(force, 1, MOST_FORCE) || (ticksAreTold && !isWithin(ticks, 1, MOST_TICKS_AT_ONCE))) {
                return FAULT_OF_RANGE;
            }
            return ticksBefore + ticks > MOST_TICKS ? FAULT_OF_TICKS : NO_FAULT;
        }

        /** Reads the note at a place; answers whether it is of the form, and leaves the place behind it. */
        boolean readNote(int from) {
            place = from;
            string = readNumber(1);
            if (!isString(string) || !readSign(':')) {
                return false;
            }
            fret = readNumber(2);
            if (fret < 0 || !readSign('!')) {
                return false;
            }
            force = readNumber(4);
            if (force < 0) {
                return false;
            }
            ticksAreTold = readSign('+');
            ticks = ticksAreTold ? readNumber(3) : 0;
            return ticks >= 0 && readSign(';');
        }

        private boolean readSign(char sign) {
            if (signAt(place) != sign) {
                return false;
            }
            place++;
            return true;
        }

        /** Reads as many digits as there are, up to the most; -1 where there is none. */
        private int readNumber(int mostDigits) {
            int value = 0;
            int digits = 0;
            while (digits < mostDigits && signAt(place) >= '0' && signAt(place) <= '9') {
                value = value * 10 + (signAt(place) - '0');
                place++;
                digits++;
            }
            return digits == 0 ? -1 : value;
        }

        private char signAt(int index) {
            return index >= 0 && index < length && index < characters.length ? characters[index] : (char) 0;
        }
    }
}
