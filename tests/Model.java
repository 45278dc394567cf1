import java.math.BigInteger;
import java.util.ArrayDeque;
import java.util.ArrayList;
import java.util.Deque;
import java.util.LinkedHashMap;
import java.util.List;
import java.util.Map;
import java.util.TreeMap;
import java.util.regex.Matcher;
import java.util.regex.Pattern;

/**
 * The document's words once more, in another shape: frets in a sorted map by position, strings that hold a
 * position rather than a number, nothing kept that can be derived, and exact numbers of any size.
 */
final class Model {
    private static final int INVALID = -1;
    private static final int NOT_POSSIBLE = -2;
    private static final int LIMIT = -3;
    private static final int NOT_FOUND = -4;
    private static final Pattern NOTE = Pattern.compile("([0-3]):([0-9]{1,2})!([0-9]{1,4})(?:\\+([0-9]{1,3}))?;");

    private record Note(int string, int fret) { }

    private static final class Fret {
        int height;
        int wear;

        Fret(int height, int wear) {
            this.height = height;
            this.wear = wear;
        }
    }

    private static final class Cord {
        int tension;
        int pressedPosition;
        int finger;
        int plucks;
        long[] amplitude = new long[13];
    }

    private static final class World {
        TreeMap<Integer, Fret> frets = new TreeMap<>();
        List<Cord> cords = new ArrayList<>();
        int[] settings = {10, 5, 500, 1000, 50};
        int ticks;
        int lost;
        LinkedHashMap<Note, Integer> notes = new LinkedHashMap<>();

        World copy() {
            World copy = new World();
            for (Map.Entry<Integer, Fret> entry : frets.entrySet()) {
                copy.frets.put(entry.getKey(), new Fret(entry.getValue().height, entry.getValue().wear));
            }
            for (Cord cord : cords) {
                Cord other = new Cord();
                other.tension = cord.tension;
                other.pressedPosition = cord.pressedPosition;
                other.finger = cord.finger;
                other.plucks = cord.plucks;
                other.amplitude = cord.amplitude.clone();
                copy.cords.add(other);
            }
            copy.settings = settings.clone();
            copy.ticks = ticks;
            copy.lost = lost;
            copy.notes.putAll(notes);
            return copy;
        }
    }

    private World w = new World();
    private final Deque<World> history = new ArrayDeque<>();
    private String text = "";

    Model() {
        for (int tension : new int[] {1000000, 1334000, 1780000, 2375000}) {
            Cord cord = new Cord();
            cord.tension = tension;
            w.cords.add(cord);
        }
    }

    private static long floor(long a, long b) {
        BigInteger[] parts = BigInteger.valueOf(a).divideAndRemainder(BigInteger.valueOf(b));
        return parts[0].longValueExact() - (parts[1].signum() != 0 && (parts[1].signum() < 0) != (b < 0) ? 1 : 0);
    }

    private void keep() {
        history.addLast(w.copy());
        if (history.size() == 5) {
            history.removeFirst();
        }
    }

    private static boolean out(int value, int least, int most) {
        return value < least || value > most;
    }

    private int positionOf(int number) {
        return number == 0 ? 0 : new ArrayList<>(w.frets.keySet()).get(number - 1);
    }

    private int numberOf(int position) {
        return position == 0 ? 0 : w.frets.headMap(position, true).size();
    }

    private long line(int p, int x) {
        long h = w.frets.get(p).height;
        return h + floor((1500 - h) * (x - p), 2520 - p);
    }

    /** The position from which a string sounds that is pressed at a position. */
    private int from(int pressedPosition) {
        if (pressedPosition == 0) {
            return 0;
        }
        int best = pressedPosition;
        long most = 0;
        for (int x : w.frets.tailMap(pressedPosition, false).descendingKeySet()) {
            long way = w.frets.get(x).height - line(pressedPosition, x);
            // Downward, so that of several the first one is the last one seen.
            if (way > 0 && way >= most) {
                most = way;
                best = x;
            }
        }
        return best;
    }

    private int[] starts() {
        int[] starts = new int[4];
        for (int s = 0; s < 4; s++) {
            starts[s] = from(w.cords.get(s).pressedPosition);
        }
        return starts;
    }

    private void rest(int[] before) {
        int[] behind = starts();
        for (int s = 0; s < 4; s++) {
            if (before[s] != behind[s]) {
                w.cords.get(s).amplitude = new long[13];
            }
        }
    }

    private int start(int s) {
        return from(w.cords.get(s).pressedPosition);
    }

    private boolean heard(int s, int n) {
        long a = w.cords.get(s).amplitude[n];
        return a > 0 && a >= w.settings[4];
    }

    private int heardOf(int s) {
        int sum = 0;
        for (int n = 1; n <= 12; n++) {
            sum += heard(s, n) ? 1 : 0;
        }
        return sum;
    }

    private int heardInAll() {
        return heardOf(0) + heardOf(1) + heardOf(2) + heardOf(3);
    }

    private long pitch(int s, int n) {
        return floor((long) n * w.cords.get(s).tension, 2520 - start(s));
    }

    private boolean isNode(int s, int n, int x) {
        return (long) n * (x - start(s)) % (2520 - start(s)) == 0;
    }

    int fret(int position, int height) {
        if (out(position, 1, 2400) || out(height, 0, 2000)) {
            return INVALID;
        }
        if (w.frets.containsKey(position)) {
            return NOT_POSSIBLE;
        }
        if (w.frets.size() == 12) {
            return LIMIT;
        }
        keep();
        int[] before = starts();
        w.frets.put(position, new Fret(height, 0));
        rest(before);
        return numberOf(position);
    }

    int level(int fret, int height) {
        if (out(fret, 1, w.frets.size()) || out(height, 0, 2000)) {
            return INVALID;
        }
        Fret one = w.frets.get(positionOf(fret));
        if (height > one.height) {
            return NOT_POSSIBLE;
        }
        keep();
        int[] before = starts();
        int lower = one.height - height;
        one.height = height;
        one.wear = 0;
        rest(before);
        return lower;
    }

    int fretInfo(int fret, int what) {
        if (out(fret, 1, w.frets.size()) || out(what, 0, 5)) {
            return INVALID;
        }
        int position = positionOf(fret);
        int pressed = 0;
        int sounding = 0;
        for (int s = 0; s < 4; s++) {
            pressed += w.cords.get(s).pressedPosition == position ? 1 << s : 0;
            sounding += start(s) == position ? 1 << s : 0;
        }
        Fret one = w.frets.get(position);
        return new int[] {position, one.height, one.wear, pressed, sounding, numberOf(from(position))}[what];
    }

    int mostFor(int fret) {
        if (out(fret, 1, w.frets.size())) {
            return INVALID;
        }
        int x = positionOf(fret);
        int height = 2000;
        while (height > 0 && inTheWayOfOne(x, height)) {
            height--;
        }
        return height;
    }

    private boolean inTheWayOfOne(int x, int height) {
        for (int p : w.frets.headMap(x, false).keySet()) {
            if (height - line(p, x) > 0) {
                return true;
            }
        }
        return false;
    }

    int tune(int string, int tension) {
        if (out(string, 0, 3) || out(tension, 1000, 100000000)) {
            return INVALID;
        }
        keep();
        int previous = w.cords.get(string).tension;
        w.cords.get(string).tension = tension;
        return previous;
    }

    private void pressNow(int string, int fret) {
        int[] before = starts();
        w.cords.get(string).pressedPosition = positionOf(fret);
        rest(before);
    }

    int press(int string, int fret) {
        if (out(string, 0, 3) || out(fret, 0, w.frets.size())) {
            return INVALID;
        }
        keep();
        pressNow(string, fret);
        return 2520 - start(string);
    }

    int touch(int string, int position) {
        if (out(string, 0, 3) || out(position, 0, 2519)) {
            return INVALID;
        }
        keep();
        int previous = w.cords.get(string).finger;
        w.cords.get(string).finger = position;
        return previous;
    }

    private void pluckNow(int string, int position, int force) {
        Cord cord = w.cords.get(string);
        int[] before = starts();
        int l = 2520 - before[string];
        for (int n = 1; n <= 12; n++) {
            int d = 0;
            while (!nodeAround(n * (position - before[string]), d, l)) {
                d++;
            }
            cord.amplitude[n] = Math.min(1000000, cord.amplitude[n] + floor(force * (long) d * 1000, (long) l * n));
        }
        cord.plucks++;
        w.notes.merge(new Note(string, numberOf(cord.pressedPosition)), 1, Integer::sum);
        if (before[string] > 0) {
            wear(before[string], force);
        }
        if (before[string] != cord.pressedPosition) {
            wear(cord.pressedPosition, force);
        }
        rest(before);
    }

    private static boolean nodeAround(int product, int d, int l) {
        return (product - d) % l == 0 || (product + d) % l == 0;
    }

    private void wear(int position, int force) {
        Fret fret = w.frets.get(position);
        fret.wear += force;
        while (fret.wear >= w.settings[3] && fret.height > 0) {
            fret.wear -= w.settings[3];
            fret.height--;
            w.lost++;
        }
    }

    int pluck(int string, int position, int force) {
        if (out(string, 0, 3) || out(position, 1, 2519) || out(force, 1, 1000)) {
            return INVALID;
        }
        if (position <= start(string)) {
            return NOT_POSSIBLE;
        }
        keep();
        pluckNow(string, position, force);
        return heardOf(string);
    }

    int damp(int string) {
        if (out(string, 0, 3)) {
            return INVALID;
        }
        keep();
        int heard = heardOf(string);
        w.cords.get(string).amplitude = new long[13];
        return heard;
    }

    int stringInfo(int string, int what) {
        if (out(string, 0, 3) || out(what, 0, 8)) {
            return INVALID;
        }
        Cord cord = w.cords.get(string);
        int mask = 0;
        int sum = 0;
        for (int n = 1; n <= 12; n++) {
            mask += heard(string, n) ? 1 << n - 1 : 0;
            sum += (int) cord.amplitude[n];
        }
        int start = start(string);
        return new int[] {cord.tension, numberOf(cord.pressedPosition), numberOf(start),
            start != cord.pressedPosition ? 1 : 0, 2520 - start, cord.finger, mask, sum, cord.plucks}[what];
    }

    int modeInfo(int string, int mode, int what) {
        if (out(string, 0, 3) || out(mode, 1, 12) || out(what, 0, 2)) {
            return INVALID;
        }
        if (what == 0) {
            return (int) w.cords.get(string).amplitude[mode];
        }
        if (what == 1) {
            return (int) pitch(string, mode);
        }
        int nodes = 0;
        int start = start(string);
        for (int x = start + 1; x < 2520; x++) {
            nodes += mode * (x - start) % (2520 - start) == 0 ? 1 : 0;
        }
        return nodes;
    }

    int node(int string, int mode, int position) {
        if (out(string, 0, 3) || out(mode, 1, 12) || out(position, 1, 2519)) {
            return INVALID;
        }
        return position <= start(string) ? NOT_FOUND : isNode(string, mode, position) ? 1 : 0;
    }

    int set(int what, int value) {
        if (out(what, 0, 4)) {
            return INVALID;
        }
        if (value < (what == 3 ? 1 : 0) || value > new int[] {1000, 100, 1000, 1000000, 100000}[what]) {
            return INVALID;
        }
        keep();
        int previous = w.settings[what];
        w.settings[what] = value;
        return previous;
    }

    private void tick() {
        for (int s = 0; s < 4; s++) {
            for (int n = 1; n <= 12; n++) {
                long a = w.cords.get(s).amplitude[n];
                int finger = w.cords.get(s).finger;
                if (finger > start(s) && !isNode(s, n, finger)) {
                    a -= floor(a * w.settings[2], 1000);
                }
                a = Math.max(0, a - floor(a * (w.settings[0] + w.settings[1] * (n - 1L)), 1000));
                w.cords.get(s).amplitude[n] = a > 0 ? a - 1 : a;
            }
        }
    }

    int run(int ticks) {
        if (out(ticks, 1, 500)) {
            return INVALID;
        }
        if (w.ticks + ticks > 100000) {
            return LIMIT;
        }
        keep();
        runNow(ticks);
        return heardInAll();
    }

    private void runNow(int ticks) {
        for (int i = 0; i < ticks; i++) {
            if (stringSum() == 0) {
                break;
            }
            tick();
        }
        w.ticks += ticks;
    }

    private long stringSum() {
        long sum = 0;
        for (Cord cord : w.cords) {
            for (long a : cord.amplitude) {
                sum += a;
            }
        }
        return sum;
    }

    int ticksTo(int string, int mode) {
        if (out(string, 0, 3) || out(mode, 1, 12)) {
            return INVALID;
        }
        World saved = w;
        w = w.copy();
        for (int s = 0; s < 4; s++) {
            for (int n = 1; n <= 12; n++) {
                if (s != string || n != mode) {
                    w.cords.get(s).amplitude[n] = 0;
                }
            }
        }
        int ticks = 0;
        while (ticks <= 2000 && heard(string, mode)) {
            tick();
            ticks++;
        }
        w = saved;
        return ticks > 2000 ? NOT_FOUND : ticks;
    }

    int beat(int a, int n, int b, int m) {
        if (out(a, 0, 3) || out(n, 1, 12) || out(b, 0, 3) || out(m, 1, 12) || a == b) {
            return INVALID;
        }
        if (!heard(a, n) || !heard(b, m) || pitch(a, n) == pitch(b, m)) {
            return NOT_FOUND;
        }
        return (int) Math.abs(pitch(a, n) - pitch(b, m));
    }

    int slowest(int a, int b, int what) {
        if (out(a, 0, 3) || out(b, 0, 3) || a == b || out(what, 0, 2)) {
            return INVALID;
        }
        List<int[]> beats = new ArrayList<>();
        for (int n = 1; n <= 12; n++) {
            for (int m = 1; m <= 12; m++) {
                int beat = beat(a, n, b, m);
                if (beat != NOT_FOUND) {
                    beats.add(new int[] {beat, n, m});
                }
            }
        }
        // The sort is stable: of those alike the first one stays ahead.
        beats.sort((one, other) -> Integer.compare(one[0], other[0]));
        return beats.isEmpty() ? NOT_FOUND : beats.get(0)[what];
    }

    int played(int index, int what) {
        if (index < 0 || out(what, 0, 2)) {
            return INVALID;
        }
        if (index >= w.notes.size()) {
            return NOT_FOUND;
        }
        Note note = new ArrayList<>(w.notes.keySet()).get(index);
        return new int[] {note.string(), note.fret(), w.notes.get(note)}[what];
    }

    int count(int what) {
        if (out(what, 0, 13)) {
            return INVALID;
        }
        if (what >= 7 && what <= 11) {
            return w.settings[what - 7];
        }
        int buzzing = 0;
        int plucks = 0;
        for (int s = 0; s < 4; s++) {
            buzzing += stringInfo(s, 3);
            plucks += w.cords.get(s).plucks;
        }
        return new int[] {w.frets.size(), w.ticks, heardInAll(), buzzing, w.notes.size(), plucks, w.lost,
            0, 0, 0, 0, 0, history.size(), text.length()}[what];
    }

    int undo() {
        if (history.isEmpty()) {
            return NOT_POSSIBLE;
        }
        w = history.removeLast();
        return history.size();
    }

    int type(int character) {
        if (out(character, 32, 126)) {
            return INVALID;
        }
        if (text.length() == 80) {
            return LIMIT;
        }
        text += (char) character;
        return text.length();
    }

    int clearText() {
        int length = text.length();
        text = "";
        return length;
    }

    /** Position and reason, or null. */
    private int[] theFault() {
        Matcher matcher = NOTE.matcher(text);
        int at = 0;
        int ticks = w.ticks;
        while (at < text.length()) {
            matcher.region(at, text.length());
            if (!matcher.lookingAt()) {
                return new int[] {at, 1};
            }
            if (Integer.parseInt(matcher.group(2)) > w.frets.size()) {
                return new int[] {at, 2};
            }
            int more = matcher.group(4) == null ? 0 : Integer.parseInt(matcher.group(4));
            if (out(Integer.parseInt(matcher.group(3)), 1, 1000) || matcher.group(4) != null && out(more, 1, 500)) {
                return new int[] {at, 3};
            }
            ticks += more;
            if (ticks > 100000) {
                return new int[] {at, 4};
            }
            at = matcher.end();
        }
        return null;
    }

    int fault(int what) {
        if (out(what, 0, 1)) {
            return INVALID;
        }
        int[] fault = theFault();
        return fault == null ? NOT_FOUND : fault[what];
    }

    int play() {
        if (theFault() != null) {
            return NOT_POSSIBLE;
        }
        keep();
        int notes = 0;
        Matcher matcher = NOTE.matcher(text);
        while (matcher.find()) {
            int string = Integer.parseInt(matcher.group(1));
            pressNow(string, Integer.parseInt(matcher.group(2)));
            pluckNow(string, 2460, Integer.parseInt(matcher.group(3)));
            runNow(matcher.group(4) == null ? 0 : Integer.parseInt(matcher.group(4)));
            notes++;
        }
        return notes;
    }
}
