/** Promises 15 to 22: set, run, ticksTo, beat, slowest, played, count, undo. */
public final class TimeTest {
    private static final Due D = new Due();
    private static final int[] NO_STRING = {-1, 4, Integer.MIN_VALUE, Integer.MAX_VALUE};
    private static final int[] NO_MODE = {-1, 0, 13, Integer.MIN_VALUE, Integer.MAX_VALUE};

    public static void main(String[] args) {
        promise15Set();
        promise16Run();
        promise16Loss();
        promise16Fingers();
        promise16Limit();
        promise16UpToTheLimit();
        promise17TicksTo();
        promise17Edges();
        promise18Beat();
        promise19Slowest();
        promise20Played();
        promise21Count();
        promise22Undo();
        D.end();
    }

    // "what: 0 to 4", "value: a value in its range", "Returns the previous value"

    private static void promise15Set() {
        Instrument x = new Instrument();
        int[] least = {0, 0, 0, 1, 0};
        int[] most = {1000, 100, 1000, 1000000, 100000};
        int[] first = {10, 5, 500, 1000, 50};
        for (int what = 0; what < 5; what++) {
            D.due("15: set(" + what + ", too little)", x.set(what, least[what] - 1), -1);
            D.due("15: set(" + what + ", too much)", x.set(what, most[what] + 1), -1);
        }
        D.due("15: set(-1, 10)", x.set(-1, 10), -1);
        D.due("15: set(5, 10)", x.set(5, 10), -1);
        D.due("15: set(max, 10)", x.set(Integer.MAX_VALUE, 10), -1);
        D.due("15: no change", x.count(12), 0);
        for (int what = 0; what < 5; what++) {
            D.due("15: set(" + what + ", least)", x.set(what, least[what]), first[what]);
            D.due("15: set(" + what + ", most)", x.set(what, most[what]), least[what]);
        }
        for (int what = 0; what < 5; what++) {
            D.due("15: count(" + (what + 7) + ")", x.count(what + 7), most[what]);
        }
        D.due("15: changes", x.count(12), 4);
    }

    // "ticks: 1 to 500", "Returns the number of modes of all strings that are heard then"

    private static void promise16Run() {
        Instrument x = new Instrument();
        D.due("16: run(0)", x.run(0), -1);
        D.due("16: run(-1)", x.run(-1), -1);
        D.due("16: run(501)", x.run(501), -1);
        D.due("16: run(max)", x.run(Integer.MAX_VALUE), -1);
        D.due("16: no change", x.count(12) + x.count(1), 0);
        D.due("16: run(1) of rest", x.run(1), 0);
        D.due("16: run(500)", x.run(500), 0);
        D.due("16: ticks", x.count(1), 501);
        x.pluck(0, 1260, 1);
        x.pluck(3, 1260, 10);
        // 500, 166, 100, 71, 55, 45 and 5000, 1666, 1000, 714, 555, 454: all but the 45 are heard.
        D.due("16: run(1)", x.run(1), 11);
        D.due("16: 500 - 5 - 1", x.modeInfo(0, 1, 0), 494);
        // 166 * 20 / 1000 is 3, 100 * 30 / 1000 is 3, 71 * 40 / 1000 is 2.
        D.due("16: 166 - 3 - 1", x.modeInfo(0, 3, 0), 162);
        D.due("16: 100 - 3 - 1", x.modeInfo(0, 5, 0), 96);
        D.due("16: 71 - 2 - 1", x.modeInfo(0, 7, 0), 68);
        D.due("16: 0 stays 0", x.modeInfo(0, 2, 0), 0);
        // 494 - 4 - 1, then 489 - 4 - 1.
        x.run(2);
        D.due("16: two more", x.modeInfo(0, 1, 0), 484);
        // 1000 * 1 * 1000 / 2520 is 396 for each mode, and the loss of the mode n is 10 + 5 * (n - 1) thousandths.
        int[] left = {392, 390, 388, 386, 384, 382, 380, 378, 376, 374, 372, 370};
        for (int string = 1; string < 3; string++) {
            x.pluck(string, 2519, 1000);
        }
        x.run(1);
        for (int mode = 1; mode <= 12; mode++) {
            D.due("16: the mode " + mode, x.modeInfo(1, mode, 0), left[mode - 1]);
            D.due("16: the mode " + mode, x.modeInfo(2, mode, 0), left[mode - 1]);
        }
    }

    private static void promise16Loss() {
        Instrument x = new Instrument();
        x.set(0, 0);
        x.set(1, 0);
        x.set(4, 1);
        x.pluck(0, 1260, 1);
        D.due("16: without loss", x.run(44), 6);
        D.due("16: one less each", x.modeInfo(0, 11, 0), 1);
        D.due("16: down to 0", x.run(1), 5);
        D.due("16: it rests", x.modeInfo(0, 11, 0), 0);
        x.run(1);
        D.due("16: no less than 0", x.modeInfo(0, 11, 0), 0);
        D.due("16: the first one", x.modeInfo(0, 1, 0), 454);
        x.set(0, 1000);
        D.due("16: all is lost", x.run(1), 0);
        D.due("16: all is 0", x.stringInfo(0, 7), 0);
        for (int times = 0; times < 3; times++) {
            x.pluck(0, 1260, 1000);
        }
        x.set(1, 100);
        D.due("16: more than all is lost", x.run(1), 0);
        D.due("16: all is 0", x.stringInfo(0, 7), 0);
        x.pluck(0, 1260, 1000);
        x.set(0, 100);
        x.run(1);
        // 500000 - 50000 - 1 and 45454 - 45454 * 1100 / 1000
        D.due("16: the first one", x.modeInfo(0, 1, 0), 449999);
        D.due("16: the eleventh one", x.modeInfo(0, 11, 0), 0);
        // 71428 - 49999 - 1
        D.due("16: the seventh one", x.modeInfo(0, 7, 0), 21428);
    }

    private static void promise16Fingers() {
        Instrument x = new Instrument();
        x.fret(1020, 1500);
        x.set(0, 0);
        x.set(1, 0);
        x.set(2, 333);
        x.press(0, 1);
        x.touch(0, 1020);
        x.pluck(0, 1770, 1000);
        x.run(1);
        D.due("16: a finger at the fret damps nothing", x.modeInfo(0, 1, 0), 499999);
        x.touch(0, 1019);
        x.run(1);
        D.due("16: nor ahead of it", x.modeInfo(0, 1, 0), 499998);
        x.touch(0, 1520);
        x.run(1);
        // 499998 * 333 / 1000 is 166499.
        D.due("16: a finger behind it", x.modeInfo(0, 1, 0), 333498);
        // 166666 - 3: the mode 3 has a node at a third.
        D.due("16: a mode with a node there", x.modeInfo(0, 3, 0), 166663);
        // 99998 - 33299 - 1
        D.due("16: one without", x.modeInfo(0, 5, 0), 66698);
        x.press(0, 0);
        x.pluck(0, 1260, 1000);
        x.run(1);
        // 500000 - 166500 - 1, as 1520 is no node of the open string's mode 3.
        D.due("16: the open string", x.modeInfo(0, 1, 0), 333499);
        D.due("16: its mode 3", x.modeInfo(0, 3, 0), 111166);
        x.set(2, 1000);
        x.run(1);
        D.due("16: the whole is damped", x.stringInfo(0, 7), 0);
        x.pluck(0, 1260, 1000);
        x.set(2, 500);
        x.set(0, 500);
        x.run(1);
        D.due("16: the finger first, then the loss", x.modeInfo(0, 1, 0), 124999);
        x.set(4, 1);
        x.damp(0);
        x.set(0, 333);
        x.pluck(0, 1, 829);
        D.due("16: a small one", x.modeInfo(0, 1, 0), 328);
        x.run(1);
        // 328 - 164 = 164; 164 - 54 = 110; 109.
        D.due("16: faded", x.modeInfo(0, 1, 0), 109);
    }

    // "LIMIT_REACHED if there would be more than 100000 ticks in all"; "(whatever the ticks in all are)" of promise
    // 17

    private static void promise16Limit() {
        Instrument x = new Instrument();
        for (int times = 0; times < 199; times++) {
            x.run(500);
        }
        D.due("16: ticks", x.count(1), 99500);
        x.run(499);
        D.due("16: run(2)", x.run(2), -3);
        D.due("16: run(501)", x.run(501), -1);
        D.due("16: run(1)", x.run(1), 0);
        D.due("16: ticks", x.count(1), 100000);
        D.due("16: run(1)", x.run(1), -3);
        D.due("16: undo()", x.undo(), 3);
        D.due("16: run(1) again", x.run(1), 0);
        x.pluck(0, 1260, 1);
        x.set(0, 0);
        x.set(4, 1);
        D.due("17: whatever the ticks in all are", x.ticksTo(0, 1), 500);
    }

    private static void promise16UpToTheLimit() {
        // The ticks ahead, those of the call, and the answer.
        int[][] rows = {{499, 500, -3}, {499, 499, 0}, {499, 498, 0}, {1, 1, 0}, {1, 2, -3}, {500, 500, 0}, {0, 1, -3}};
        for (int[] row : rows) {
            Instrument x = new Instrument();
            for (int times = 0; times < 199; times++) {
                x.run(500);
            }
            if (row[0] < 500) {
                x.run(500 - row[0]);
            }
            D.due("16: " + row[1] + " ticks where " + row[0] + " are left", x.run(row[1]), row[2]);
            D.due("16: ticks then", x.count(1), 100000 - row[0] + (row[2] == 0 ? row[1] : 0));
        }
    }

    // "Tells after how many ticks a mode is not heard for the first time, if nothing else happens."

    private static void promise17TicksTo() {
        Instrument x = new Instrument();
        for (int string : NO_STRING) {
            D.due("17: ticksTo(" + string + ", 1)", x.ticksTo(string, 1), -1);
        }
        for (int mode : NO_MODE) {
            D.due("17: ticksTo(0, " + mode + ")", x.ticksTo(0, mode), -1);
        }
        D.due("17: ticksTo(0, 1) of rest", x.ticksTo(0, 1), 0);
        x.pluck(0, 1260, 1);
        // 71 - 2 - 1 = 68, 68 - 2 - 1 = 65, .., 50 - 2 - 1 = 47
        D.due("17: ticksTo(0, 7)", x.ticksTo(0, 7), 8);
        D.due("17: ticksTo(0, 11) below the hearing", x.ticksTo(0, 11), 0);
        D.due("17: no change", x.count(12) + x.count(1), 1);
        x.pluck(0, 840, 700);
        x.touch(0, 630);
        for (int mode = 1; mode <= 12; mode++) {
            int told = x.ticksTo(0, mode);
            int bit = 1 << (mode - 1);
            if (told > 1) {
                x.run(told - 1);
                D.due("17: heard until then", x.stringInfo(0, 6) & bit, bit);
                x.run(1);
                x.undo();
                x.run(1);
                D.due("17: not heard then", x.stringInfo(0, 6) & bit, 0);
                x.undo();
                x.undo();
            }
            D.due("17: as told before", x.ticksTo(0, mode), told);
        }
    }

    // "0 if it is not heard now", "NOT_FOUND if it is heard behind 2000 ticks, too"

    private static void promise17Edges() {
        Instrument x = new Instrument();
        x.set(0, 0);
        x.set(1, 0);
        x.set(4, 500);
        x.pluck(0, 1260, 5);
        D.due("17: 2500 is heard down to 500", x.ticksTo(0, 1), -4);
        x.set(4, 501);
        D.due("17: down to 501", x.ticksTo(0, 1), 2000);
        x.set(4, 502);
        D.due("17: down to 502", x.ticksTo(0, 1), 1999);
        x.set(4, 2500);
        D.due("17: the next one is too little", x.ticksTo(0, 1), 1);
        x.set(4, 2501);
        D.due("17: not heard", x.ticksTo(0, 1), 0);
        x.set(4, 0);
        x.set(0, 1000);
        D.due("17: with the hearing 0", x.ticksTo(0, 1), 1);
        D.due("17: a mode that rests", x.ticksTo(0, 2), 0);
    }

    // "INVALID_ARGUMENT if an argument is out of range, or a is b; NOT_FOUND if they do not beat"

    private static void promise18Beat() {
        Instrument x = new Instrument();
        for (int string : NO_STRING) {
            D.due("18: beat(" + string + ", 1, 0, 1)", x.beat(string, 1, 0, 1), -1);
            D.due("18: beat(0, 1, " + string + ", 1)", x.beat(0, 1, string, 1), -1);
        }
        for (int mode : NO_MODE) {
            D.due("18: beat(0, " + mode + ", 1, 1)", x.beat(0, mode, 1, 1), -1);
            D.due("18: beat(0, 1, 1, " + mode + ")", x.beat(0, 1, 1, mode), -1);
        }
        D.due("18: beat(1, 1, 1, 2)", x.beat(1, 1, 1, 2), -1);
        D.due("18: beat of rest", x.beat(0, 1, 1, 1), -4);
        x.pluck(0, 1260, 100);
        D.due("18: beat of one and rest", x.beat(0, 1, 1, 1), -4);
        D.due("18: beat of rest and one", x.beat(1, 1, 0, 1), -4);
        x.pluck(1, 1260, 100);
        // 396 and 529, 1190
        D.due("18: beat(0, 1, 1, 1)", x.beat(0, 1, 1, 1), 133);
        D.due("18: beat(1, 1, 0, 1)", x.beat(1, 1, 0, 1), 133);
        D.due("18: beat(0, 3, 1, 1)", x.beat(0, 3, 1, 1), 661);
        D.due("18: a mode that rests", x.beat(0, 2, 1, 1), -4);
        x.tune(1, 1001000);
        D.due("18: of pitches that are rounded down", x.beat(0, 1, 1, 1), 1);
        x.tune(1, 1000000);
        D.due("18: of the same pitch", x.beat(0, 1, 1, 1), -4);
        D.due("18: beat(0, 3, 1, 1)", x.beat(0, 3, 1, 1), 794);
        x.tune(1, 1000200);
        D.due("18: of the same pitch, rounded", x.beat(0, 1, 1, 1), -4);
    }

    // "that with the least difference, of several that with the lowest mode of a, then the lowest one of b",
    // "NOT_FOUND if no modes of them beat"

    private static void promise19Slowest() {
        Instrument x = new Instrument();
        for (int string : NO_STRING) {
            D.due("19: slowest(" + string + ", 0, 0)", x.slowest(string, 0, 0), -1);
            D.due("19: slowest(0, " + string + ", 0)", x.slowest(0, string, 0), -1);
        }
        D.due("19: slowest(2, 2, 0)", x.slowest(2, 2, 0), -1);
        D.due("19: slowest(0, 1, -1)", x.slowest(0, 1, -1), -1);
        D.due("19: slowest(0, 1, 3)", x.slowest(0, 1, 3), -1);
        for (int what = 0; what < 3; what++) {
            D.due("19: slowest(0, 1, " + what + ") of rest", x.slowest(0, 1, what), -4);
        }
        x.tune(0, 2520000);
        x.tune(1, 3780000);
        x.pluck(0, 2519, 1000);
        D.due("19: of one string alone", x.slowest(0, 1, 0), -4);
        x.pluck(1, 2519, 1000);
        // 1000, 2000, .. and 1500, 3000, ..: 500 for 1 and 1, 2 and 1, 4 and 3, ..
        D.due("19: slowest(0, 1, 0)", x.slowest(0, 1, 0), 500);
        D.due("19: slowest(0, 1, 1)", x.slowest(0, 1, 1), 1);
        D.due("19: slowest(0, 1, 2)", x.slowest(0, 1, 2), 1);
        D.due("19: slowest(1, 0, 1)", x.slowest(1, 0, 1), 1);
        D.due("19: slowest(1, 0, 2), the lowest of those", x.slowest(1, 0, 2), 1);
        x.tune(1, 2520000);
        D.due("19: those of the same pitch do not count", x.slowest(0, 1, 0), 1000);
        D.due("19: slowest(0, 1, 1)", x.slowest(0, 1, 1), 1);
        D.due("19: slowest(0, 1, 2)", x.slowest(0, 1, 2), 2);
        x.tune(1, 27720);
        // 11, 22, .., 132: the nearest to 1000 is 132.
        D.due("19: slowest(0, 1, 0)", x.slowest(0, 1, 0), 868);
        D.due("19: slowest(0, 1, 2)", x.slowest(0, 1, 2), 12);
        x.damp(1);
        x.pluck(1, 1260, 1000);
        D.due("19: of those that are heard", x.slowest(0, 1, 2), 11);
        x.damp(0);
        D.due("19: damped", x.slowest(0, 1, 0), -4);
        slowestEdges();
        Instrument y = new Instrument();
        y.tune(0, 2520000);
        y.tune(1, 2520000);
        y.pluck(0, 1260, 1000);
        y.pluck(1, 1260, 1000);
        D.due("19: the odd ones of the same pitch", y.slowest(0, 1, 0), 2000);
        D.due("19: the lowest mode of a", y.slowest(0, 1, 1), 1);
        D.due("19: then that of b", y.slowest(0, 1, 2), 3);
    }

    // The first and the last modes of both

    private static void slowestEdges() {
        Instrument x = new Instrument();
        x.pluck(2, 2519, 1000);
        x.pluck(3, 2519, 1000);
        // 10 .. 120 and 1319 .. 15828: the nearest are the modes 12 and 1.
        x.tune(2, 25200);
        x.tune(3, 3323880);
        D.due("19: slowest(2, 3, 0)", x.slowest(2, 3, 0), 1199);
        D.due("19: slowest(2, 3, 1)", x.slowest(2, 3, 1), 12);
        D.due("19: slowest(2, 3, 2)", x.slowest(2, 3, 2), 1);
        D.due("19: slowest(3, 2, 2)", x.slowest(3, 2, 2), 12);
        x.tune(3, 305000);
        // 121 and 120
        D.due("19: a beat of 1", x.slowest(2, 3, 0), 1);
    }

    // "a note is a string with the fret at which it was pressed when it was plucked (by its number then); notes are
    // told in the order in which they were plucked first", "NOT_FOUND if there are not so many"

    private static void promise20Played() {
        Instrument x = new Instrument();
        D.due("20: played(-1, 0)", x.played(-1, 0), -1);
        D.due("20: played(0, -1)", x.played(0, -1), -1);
        D.due("20: played(0, 3)", x.played(0, 3), -1);
        D.due("20: played(min, 0)", x.played(Integer.MIN_VALUE, 0), -1);
        D.due("20: played(0, 0)", x.played(0, 0), -4);
        D.due("20: played(max, 2)", x.played(Integer.MAX_VALUE, 2), -4);
        x.fret(1000, 1500);
        x.fret(1500, 2000);
        x.press(3, 1);
        x.pluck(3, 2000, 1);
        x.pluck(1, 2000, 1);
        x.pluck(3, 2000, 1);
        x.press(1, 2);
        x.pluck(1, 2000, 1);
        x.press(3, 2);
        x.pluck(3, 2000, 1);
        x.pluck(3, 1, 1);
        // The string 3 at 1 buzzes from 2: the note tells the fret at which it is pressed.
        int[][] due = {{3, 1, 2}, {1, 0, 1}, {1, 2, 1}, {3, 2, 1}};
        D.due("20: count(4)", x.count(4), 4);
        for (int index = 0; index < 4; index++) {
            for (int what = 0; what < 3; what++) {
                D.due("20: played(" + index + ", " + what + ")", x.played(index, what), due[index][what]);
            }
        }
        D.due("20: played(4, 0)", x.played(4, 0), -4);
        x.fret(500, 0);
        D.due("20: the string is pressed at 3 then", x.stringInfo(3, 1), 3);
        D.due("20: by its number then", x.played(3, 1), 2);
        x.pluck(3, 2000, 1);
        D.due("20: a new note", x.played(4, 1), 3);
        x.press(3, 2);
        x.pluck(3, 2000, 1);
        D.due("20: the old number again", x.played(3, 2), 2);
        D.due("20: count(4)", x.count(4), 5);
        x.undo();
        D.due("20: undone", x.played(3, 2), 1);
        x.undo();
        x.undo();
        D.due("20: undone", x.played(4, 0), -4);
        playedAll();
    }

    // As many notes as there can be

    private static void playedAll() {
        Instrument x = new Instrument();
        for (int fret = 1; fret <= 12; fret++) {
            x.fret(100 * fret, 0);
        }
        for (int fret = 12; fret >= 0; fret--) {
            for (int string = 0; string < 4; string++) {
                x.press(string, fret);
                x.pluck(string, 2519, 1);
            }
        }
        D.due("20: all the notes", x.count(4), 52);
        for (int index = 0; index < 52; index++) {
            D.due("20: played(" + index + ", 0)", x.played(index, 0), index % 4);
            D.due("20: played(" + index + ", 1)", x.played(index, 1), 12 - index / 4);
            D.due("20: played(" + index + ", 2)", x.played(index, 2), 1);
        }
        D.due("20: played(52, 0)", x.played(52, 0), -4);
    }

    // "what: 0: frets; .. 13: the length of the text"

    private static void promise21Count() {
        Instrument x = new Instrument();
        D.due("21: count(-1)", x.count(-1), -1);
        D.due("21: count(14)", x.count(14), -1);
        D.due("21: count(min)", x.count(Integer.MIN_VALUE), -1);
        D.due("21: count(max)", x.count(Integer.MAX_VALUE), -1);
        x.fret(1000, 1000);
        x.fret(1500, 1900);
        x.fret(2000, 1950);
        x.press(0, 1);
        x.press(1, 1);
        x.press(2, 3);
        x.set(0, 11);
        x.set(1, 6);
        x.set(2, 501);
        x.set(3, 500);
        x.set(4, 51);
        x.pluck(0, 2260, 1000);
        x.pluck(0, 2260, 1000);
        x.pluck(3, 1260, 500);
        x.pluck(3, 1260, 500);
        x.pluck(3, 1260, 500);
        x.run(7);
        D.due("21: type", x.type('a'), 1);
        D.due("21: type", x.type('b'), 2);
        int heard = Integer.bitCount(x.stringInfo(0, 6)) + Integer.bitCount(x.stringInfo(3, 6));
        int[] counts = {3, 7, heard, 2, 2, 5, 8, 11, 6, 501, 500, 51, 4, 2};
        for (int what = 0; what < counts.length; what++) {
            D.due("21: count(" + what + ")", x.count(what), counts[what]);
        }
        x.undo();
        D.due("21: ticks are undone", x.count(1), 0);
        x.undo();
        D.due("21: plucks are undone", x.count(5), 4);
        D.due("21: the text is not", x.count(13), 2);
    }

    // "Restores the latest state of the history, which is removed from it.", "NOT_POSSIBLE if it is empty"

    private static void promise22Undo() {
        Instrument x = new Instrument();
        D.due("22: undo()", x.undo(), -2);
        for (int times = 1; times <= 6; times++) {
            x.tune(0, 1000 * times);
            D.due("22: states", x.count(12), Math.min(times, 4));
        }
        for (int left = 3; left >= 0; left--) {
            D.due("22: undo()", x.undo(), left);
            D.due("22: the tension", x.stringInfo(0, 0), 1000 * (left + 2));
            D.due("22: states", x.count(12), left);
        }
        D.due("22: undo()", x.undo(), -2);
        D.due("22: it stays", x.stringInfo(0, 0), 2000);
        x.tune(0, 7000);
        D.due("22: undo()", x.undo(), 0);
        D.due("22: the tension", x.stringInfo(0, 0), 2000);
        x.tune(0, 3000);
        x.tune(0, 4000);
        x.undo();
        x.tune(0, 5000);
        x.tune(0, 6000);
        D.due("22: undo()", x.undo(), 2);
        D.due("22: the tension", x.stringInfo(0, 0), 5000);
        D.due("22: undo()", x.undo(), 1);
        D.due("22: the tension", x.stringInfo(0, 0), 3000);
    }
}
