/** Promises 1 to 5: a new object, fret, level, fretInfo, mostFor. */
public final class FretsTest {
    private static final Due D = new Due();

    public static void main(String[] args) {
        promise1NewObject();
        promise2Fret();
        promise2FretAndStrings();
        promise2NumbersOfAllStrings();
        promise2JustBesideAString();
        promise3Level();
        promise3LevelAndStrings();
        promise4FretInfo();
        promise4MostInTheWay();
        promise4RoundedDown();
        promise5MostFor();
        promise5AllOthersAsTheyAre();
        wearByPlucks();
        wearSilences();
        D.end();
    }

    // "Creates four open strings that rest, without frets."

    private static void promise1NewObject() {
        Instrument x = new Instrument();
        int[] counts = {0, 0, 0, 0, 0, 0, 0, 10, 5, 500, 1000, 50, 0, 0};
        for (int what = 0; what < counts.length; what++) {
            D.due("1: count(" + what + ")", x.count(what), counts[what]);
        }
        int[] tensions = {1000000, 1334000, 1780000, 2375000};
        for (int string = 0; string < 4; string++) {
            int[] infos = {tensions[string], 0, 0, 0, 2520, 0, 0, 0, 0};
            for (int what = 0; what < infos.length; what++) {
                D.due("1: stringInfo(" + string + ", " + what + ")", x.stringInfo(string, what), infos[what]);
            }
            for (int mode = 1; mode <= 12; mode++) {
                D.due("1: modeInfo(.., 0)", x.modeInfo(string, mode, 0), 0);
            }
        }
        D.due("1: fretInfo(1, 0)", x.fretInfo(1, 0), -1);
        D.due("1: played(0, 0)", x.played(0, 0), -4);
        D.due("1: fault(0)", x.fault(0), -4);
        D.due("1: undo()", x.undo(), -2);
        D.due("1: the other object is its own", new Instrument().fret(5, 5), 1);
        D.due("1: count(0) still", x.count(0), 0);
    }

    // "position: 1 to 2400", "height: 0 to 2000", "NOT_POSSIBLE if there is one at this position; LIMIT_REACHED if
    // there are 12"

    private static void promise2Fret() {
        Instrument x = new Instrument();
        D.due("2: fret(0, 10)", x.fret(0, 10), -1);
        D.due("2: fret(2401, 10)", x.fret(2401, 10), -1);
        D.due("2: fret(10, -1)", x.fret(10, -1), -1);
        D.due("2: fret(10, 2001)", x.fret(10, 2001), -1);
        D.due("2: fret(min, min)", x.fret(Integer.MIN_VALUE, Integer.MIN_VALUE), -1);
        D.due("2: fret(max, max)", x.fret(Integer.MAX_VALUE, Integer.MAX_VALUE), -1);
        D.due("2: no change", x.count(12), 0);
        D.due("2: fret(2400, 2000)", x.fret(2400, 2000), 1);
        D.due("2: fret(1, 0)", x.fret(1, 0), 1);
        D.due("2: fret(2, 7)", x.fret(2, 7), 2);
        D.due("2: fret(2399, 8)", x.fret(2399, 8), 3);
        D.due("2: fretInfo(4, 0)", x.fretInfo(4, 0), 2400);
        D.due("2: fretInfo(4, 1)", x.fretInfo(4, 1), 2000);
        D.due("2: fretInfo(1, 1)", x.fretInfo(1, 1), 0);
        D.due("2: fretInfo(3, 1)", x.fretInfo(3, 1), 8);
        D.due("2: fret(2, 9) is taken", x.fret(2, 9), -2);
        D.due("2: fret(2, 2001)", x.fret(2, 2001), -1);
        for (int fret = 5; fret <= 12; fret++) {
            D.due("2: fret number " + fret, x.fret(100 * fret, 100), fret - 2);
        }
        D.due("2: count(0)", x.count(0), 12);
        D.due("2: fret(3, 3), the 13th", x.fret(3, 3), -3);
        D.due("2: fret(2, 3), taken and the 13th", x.fret(2, 3), -2);
        D.due("2: fret(0, 3), out of range and the 13th", x.fret(0, 3), -1);
        D.due("2: count(0)", x.count(0), 12);
        D.due("2: fretInfo(13, 0)", x.fretInfo(13, 0), -1);
    }

    // "Sets a fret in.", with strings that sound on or rest

    private static void promise2FretAndStrings() {
        Instrument x = new Instrument();
        x.fret(1000, 1000);
        x.press(2, 1);
        x.set(3, 1000000);
        x.pluck(2, 2000, 1000);
        x.pluck(0, 2000, 1000);
        int sum = x.stringInfo(2, 7);
        D.due("2: the wear", x.fretInfo(1, 2), 1000);
        D.due("2: a fret ahead", x.fret(500, 2000), 1);
        D.due("2: the string stays at its fret", x.stringInfo(2, 1), 2);
        D.due("2: it sounds from it", x.stringInfo(2, 2), 2);
        D.due("2: its amplitudes stay", x.stringInfo(2, 7), sum);
        D.due("2: the wear moves along", x.fretInfo(2, 2), 1000);
        D.due("2: that of the new one is 0", x.fretInfo(1, 2), 0);
        // The line from 1000 micrometres at 1000 to the bridge has 1125 at 1380.
        D.due("2: a fret behind, as high as the line", x.fret(1380, 1125), 3);
        D.due("2: it is not in the way", x.stringInfo(2, 3), 0);
        D.due("2: the amplitudes stay", x.stringInfo(2, 7), sum);
        D.due("2: a fret above the line", x.fret(1381, 1126), 4);
        D.due("2: it is in the way", x.stringInfo(2, 2), 4);
        D.due("2: the pressed one stays", x.stringInfo(2, 1), 2);
        D.due("2: the string buzzes", x.stringInfo(2, 3), 1);
        D.due("2: it rests", x.stringInfo(2, 7), 0);
        D.due("2: the open one goes on", x.stringInfo(0, 6) != 0 ? 1 : 0, 1);
        D.due("2: undo()", x.undo(), 3);
        D.due("2: as before", x.stringInfo(2, 7), sum);
    }

    // "(The numbers of those behind it, also those at which strings are pressed, grow by 1.)"

    private static void promise2NumbersOfAllStrings() {
        Instrument x = new Instrument();
        x.fret(1000, 1500);
        x.fret(1500, 1500);
        for (int string = 0; string < 4; string++) {
            x.press(string, 1 + string / 2);
        }
        D.due("4: pressed at 1", x.fretInfo(1, 3), 3);
        D.due("4: pressed at 2", x.fretInfo(2, 3), 12);
        D.due("2: a fret between", x.fret(1200, 0), 2);
        for (int string = 0; string < 4; string++) {
            D.due("2: the string " + string, x.stringInfo(string, 1), 1 + string / 2 * 2);
            D.due("2: sounds from", x.stringInfo(string, 2), 1 + string / 2 * 2);
        }
        D.due("4: sounding from 1", x.fretInfo(1, 4), 3);
        D.due("4: sounding from 3", x.fretInfo(3, 4), 12);
        D.due("2: a fret ahead", x.fret(1, 0), 1);
        D.due("2: the string 0", x.stringInfo(0, 1), 2);
        D.due("2: the string 3", x.stringInfo(3, 1), 4);
    }

    private static void promise2JustBesideAString() {
        for (int beside : new int[] {999, 1001}) {
            Instrument x = new Instrument();
            x.fret(1000, 1500);
            x.fret(1002, 1500);
            x.press(0, 1);
            x.press(1, 2);
            int first = beside < 1000 ? 2 : 1;
            D.due("2: a fret at " + beside, x.fret(beside, 0), 3 - first);
            D.due("2: the string at 1000", x.stringInfo(0, 1), first);
            D.due("2: it sounds from", x.stringInfo(0, 2), first);
            D.due("2: the string at 1002", x.stringInfo(1, 1), 3);
            D.due("2: open strings stay open", x.stringInfo(2, 1) + x.stringInfo(3, 1), 0);
            D.due("2: the mask", x.fretInfo(first, 3), 1);
            D.due("2: the mask of the new one", x.fretInfo(3 - first, 3), 0);
            x.undo();
            D.due("2: undone", x.stringInfo(0, 1) * 10 + x.stringInfo(1, 1), 12);
        }
        Instrument x = new Instrument();
        for (int fret = 1; fret <= 11; fret++) {
            x.fret(200 * fret, 1500);
        }
        x.press(3, 11);
        D.due("2: the 12th ahead of all", x.fret(1, 2000), 1);
        D.due("2: the string moves to the last number", x.stringInfo(3, 1), 12);
        D.due("2: its length", x.stringInfo(3, 4), 320);
    }

    // "Files a fret to a height, which is not above its own; its wear becomes 0."

    private static void promise3Level() {
        Instrument x = new Instrument();
        D.due("3: level(1, 0) without frets", x.level(1, 0), -1);
        x.fret(500, 900);
        D.due("3: level(0, 0)", x.level(0, 0), -1);
        D.due("3: level(2, 0)", x.level(2, 0), -1);
        D.due("3: level(1, -1)", x.level(1, -1), -1);
        D.due("3: level(1, 2001)", x.level(1, 2001), -1);
        D.due("3: level(1, 901)", x.level(1, 901), -2);
        D.due("3: level(1, 2000)", x.level(1, 2000), -2);
        x.press(0, 1);
        x.pluck(0, 2000, 999);
        D.due("3: the wear", x.fretInfo(1, 2), 999);
        D.due("3: no change yet", x.count(12), 3);
        D.due("3: level(1, 900)", x.level(1, 900), 0);
        D.due("3: its wear goes", x.fretInfo(1, 2), 0);
        D.due("3: it is a change", x.count(12), 4);
        D.due("3: level(1, 1)", x.level(1, 1), 899);
        D.due("3: its height", x.fretInfo(1, 1), 1);
        D.due("3: level(1, 0)", x.level(1, 0), 1);
        D.due("3: level(1, 1)", x.level(1, 1), -2);
        D.due("3: no micrometres by wear", x.count(6), 0);
    }

    private static void promise3LevelAndStrings() {
        Instrument x = new Instrument();
        x.fret(1000, 1000);
        x.fret(1380, 1200);
        x.press(1, 1);
        x.set(3, 1000000);
        D.due("3: it buzzes", x.stringInfo(1, 2), 2);
        x.pluck(1, 2000, 1000);
        int sum = x.stringInfo(1, 7);
        D.due("3: level(2, 1126)", x.level(2, 1126), 74);
        D.due("3: it buzzes still", x.stringInfo(1, 2), 2);
        D.due("3: it goes on", x.stringInfo(1, 7), sum);
        D.due("3: level(2, 1125)", x.level(2, 1125), 1);
        D.due("3: it is free", x.stringInfo(1, 2), 1);
        D.due("3: it rests", x.stringInfo(1, 7), 0);
        x.pluck(1, 2000, 1000);
        D.due("3: level(1, 999)", x.level(1, 999), 1);
        D.due("3: the line is lower", x.stringInfo(1, 2), 2);
        D.due("3: it rests again", x.stringInfo(1, 7), 0);
    }

    // "what: 0: its position; .. 5: the fret from which a string sounds that is pressed at it"

    private static void promise4FretInfo() {
        Instrument x = new Instrument();
        x.fret(1000, 1000);
        x.fret(1500, 1900);
        x.press(1, 1);
        x.press(3, 1);
        x.press(2, 2);
        int[] first = {1000, 1000, 0, 10, 0, 2};
        int[] second = {1500, 1900, 0, 4, 14, 2};
        for (int what = 0; what < 6; what++) {
            D.due("4: fretInfo(1, " + what + ")", x.fretInfo(1, what), first[what]);
            D.due("4: fretInfo(2, " + what + ")", x.fretInfo(2, what), second[what]);
        }
        D.due("4: fretInfo(1, -1)", x.fretInfo(1, -1), -1);
        D.due("4: fretInfo(1, 6)", x.fretInfo(1, 6), -1);
        D.due("4: fretInfo(0, 0)", x.fretInfo(0, 0), -1);
        D.due("4: fretInfo(3, 0)", x.fretInfo(3, 0), -1);
        D.due("4: fretInfo(-1, 3)", x.fretInfo(-1, 3), -1);
        D.due("4: no change", x.count(12), 4);
        x.fret(200, 0);
        D.due("4: pressed at none", x.fretInfo(1, 3), 0);
        D.due("4: the string 0 is open", x.stringInfo(0, 2), 0);
        D.due("4: those behind it are in the way", x.fretInfo(1, 5), 3);
    }

    private static void promise4MostInTheWay() {
        Instrument x = new Instrument();
        x.fret(520, 1500);
        x.fret(1000, 1507);
        x.fret(1500, 1508);
        x.fret(2000, 1508);
        D.due("4: of several the first one", x.fretInfo(1, 5), 3);
        D.due("4: from a fret above the bridge the line falls", x.fretInfo(3, 5), 4);
        D.due("4: the last one is free", x.fretInfo(4, 5), 4);
        x.level(3, 1507);
        D.due("4: the most", x.fretInfo(1, 5), 4);
        x.level(4, 1507);
        D.due("4: the first of three", x.fretInfo(1, 5), 2);
        x.level(2, 1500);
        x.level(3, 1500);
        x.level(4, 1500);
        D.due("4: none above the line", x.fretInfo(1, 5), 1);
    }

    private static void promise4RoundedDown() {
        // 2000 + (-500) * 1 / 2519 is 1999 when rounded down, not 2000.
        Instrument x = new Instrument();
        x.fret(1, 2000);
        x.fret(2, 2000);
        D.due("4: in the way of a falling line", x.fretInfo(1, 5), 2);
        x.level(2, 1999);
        D.due("4: no more", x.fretInfo(1, 5), 1);
        Instrument y = new Instrument();
        y.fret(1, 0);
        y.fret(2, 1);
        // 0 + 1500 * 1 / 2519 is 0.
        D.due("4: in the way of a rising line", y.fretInfo(1, 5), 2);
        y.level(2, 0);
        D.due("4: no more", y.fretInfo(1, 5), 1);
    }

    // "Returns the greatest height that a fret could have, so that it would not be in the way of a string that is
    // pressed at any of the frets ahead of it", "0 to 2000"

    private static void promise5MostFor() {
        Instrument x = new Instrument();
        D.due("5: mostFor(1) without frets", x.mostFor(1), -1);
        x.fret(520, 1000);
        D.due("5: mostFor(1)", x.mostFor(1), 2000);
        D.due("5: mostFor(0)", x.mostFor(0), -1);
        D.due("5: mostFor(2)", x.mostFor(2), -1);
        x.fret(1520, 1900);
        // 1000 + 500 * 1000 / 2000
        D.due("5: mostFor(2)", x.mostFor(2), 1250);
        x.fret(1020, 400);
        // At 1520: 1250 for the first one, 400 + 1100 * 500 / 1500 = 766 for the second one.
        D.due("5: mostFor(3)", x.mostFor(3), 766);
        D.due("5: mostFor(2)", x.mostFor(2), 1125);
        D.due("5: level(3, 767)", x.level(3, 767), 1133);
        D.due("5: in the way", x.fretInfo(2, 5), 3);
        D.due("5: level(3, 766)", x.level(3, 766), 1);
        D.due("5: not in the way", x.fretInfo(2, 5), 2);
        Instrument y = new Instrument();
        y.fret(1, 2000);
        y.fret(2, 0);
        D.due("5: rounded down", y.mostFor(2), 1999);
        Instrument z = new Instrument();
        z.fret(1, 0);
        z.fret(2, 0);
        D.due("5: rounded down to 0", z.mostFor(2), 0);
    }

    // "all other frets being as they are"

    private static void promise5AllOthersAsTheyAre() {
        Instrument x = new Instrument();
        x.fret(1000, 1500);
        x.fret(1500, 1490);
        x.fret(2000, 2000);
        x.fret(2400, 2000);
        // From 1500 at 1000 it is 1500; from 1490 at 1500, 1490 + 10 * 500 / 1020 = 1494.
        D.due("5: the lowest of the lines", x.mostFor(3), 1494);
        D.due("5: frets behind do not count", x.mostFor(1), 2000);
        D.due("5: of the last one", x.mostFor(4), 1498);
        D.due("5: its own height does not count", x.level(3, 0), 2000);
        D.due("5: the same", x.mostFor(3), 1494);
        // From 0 at 2000: 1500 * 400 / 520 is 1153.
        D.due("5: of the one behind", x.mostFor(4), 1153);
        x.undo();
        D.due("5: filed to just above", x.level(3, 1495), 505);
        D.due("5: is in the way", x.fretInfo(2, 5), 4);
        x.level(4, 0);
        D.due("5: is in the way of one", x.fretInfo(2, 5), 3);
        D.due("5: not of the other", x.fretInfo(1, 5), 1);
        x.level(3, 1494);
        D.due("5: is in the way of none", x.fretInfo(2, 5), 2);
        D.due("5: no change", x.count(12), 4);
    }

    private static void wearByPlucks() {
        Instrument x = new Instrument();
        x.fret(1000, 1000);
        x.fret(1500, 1900);
        x.fret(2000, 2);
        x.pluck(0, 2000, 1000);
        D.due("wear: an open string wears none", x.fretInfo(1, 2) + x.fretInfo(2, 2) + x.fretInfo(3, 2), 0);
        x.press(0, 1);
        x.set(3, 1500);
        x.pluck(0, 2000, 1000);
        D.due("wear: of the pressed one", x.fretInfo(1, 2), 1000);
        D.due("wear: of the one it sounds from", x.fretInfo(2, 2), 1000);
        D.due("wear: of another one", x.fretInfo(3, 2), 0);
        D.due("wear: nothing lost yet", x.count(6), 0);
        x.pluck(0, 2000, 500);
        D.due("wear: a micrometre", x.fretInfo(1, 1), 999);
        D.due("wear: a micrometre", x.fretInfo(2, 1), 1899);
        D.due("wear: used up", x.fretInfo(1, 2), 0);
        D.due("wear: both are counted", x.count(6), 2);
        x.press(1, 2);
        x.pluck(1, 2000, 1000);
        D.due("wear: the pressed one that sounds wears once", x.fretInfo(2, 2), 1000);
        x.set(3, 10);
        D.due("wear: looked at behind a pluck alone", x.fretInfo(2, 1), 1899);
        x.run(1);
        x.press(1, 2);
        D.due("wear: still", x.fretInfo(2, 2), 1000);
        x.pluck(1, 2000, 9);
        D.due("wear: then all of it", x.fretInfo(2, 1), 1799);
        D.due("wear: with a rest", x.fretInfo(2, 2), 9);
        x.press(2, 3);
        x.set(3, 1);
        x.pluck(2, 2500, 10);
        D.due("wear: down to 0", x.fretInfo(3, 1), 0);
        D.due("wear: which keeps the wear", x.fretInfo(3, 2), 8);
        D.due("wear: lost in all", x.count(6), 104);
        x.pluck(2, 2500, 10);
        D.due("wear: it grows on", x.fretInfo(3, 2), 18);
    }

    private static void wearSilences() {
        Instrument x = new Instrument();
        x.fret(1000, 1000);
        x.fret(1380, 1125);
        x.press(0, 1);
        x.press(1, 1);
        x.pluck(1, 2000, 500);
        D.due("wear: the string 1 sounds from 1", x.stringInfo(1, 2), 1);
        D.due("wear: the pluck that wears is not heard", x.pluck(0, 2000, 500), 0);
        D.due("wear: the line is lower", x.stringInfo(0, 2), 2);
        D.due("wear: the string 0 rests", x.stringInfo(0, 7), 0);
        D.due("wear: the string 1 does so, too", x.stringInfo(1, 7), 0);
        D.due("wear: they buzz", x.count(3), 2);
        D.due("wear: the frets that follow wear both", x.pluck(0, 2000, 999) > 0 ? 1 : 0, 1);
        D.due("wear: of 1", x.fretInfo(1, 2), 999);
        D.due("wear: of 2", x.fretInfo(2, 2), 999);
        // Both lose one: the line at 1380 is 998 + 502 * 380 / 1520 = 1123, the fret 1124.
        D.due("wear: both wear, and it goes on", x.pluck(0, 2000, 1) > 0 ? 1 : 0, 1);
        D.due("wear: of 1", x.fretInfo(1, 1), 998);
        D.due("wear: of 2", x.fretInfo(2, 1), 1124);
    }
}
