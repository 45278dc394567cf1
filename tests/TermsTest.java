import java.util.Arrays;

/** The sentences of "Terms" that name an edge, one test for each; those of "Changes and errors" are in ChangesTest. */
public final class TermsTest {
    private static final Due D = new Due();
    private static final int BRIDGE = 2520;
    private static final int MODES = 12;

    public static void main(String[] args) {
        lastOf512Calls();
        fretsAreNumberedByPosition();
        wearIsAtFirst0();
        heightsOfTheLine();
        theBridgeHas1500();
        fretsAheadAreNotInTheWay();
        ofSeveralTheFirstOne();
        inTheWayIsMeasuredFromTheLine();
        openStringsNeverBuzz();
        pitchIsRoundedDown();
        pitchOfTheSoundingLength();
        nodesAreAboveTheStart();
        nodesOfAStringThatBuzzes();
        distanceFromTheNearerNode();
        amplitudesAreRoundedDown();
        amplitudesAreAtMost1000000();
        plucksTakeNothingAway();
        pressingSilences();
        newFretsSilence();
        filingSilences();
        wearSilencesOneAlone();
        D.end();
    }

    // "An object is used for at most 512 calls after it has been made"

    private static void lastOf512Calls() {
        Instrument x = new Instrument();
        for (int call = 1; call <= 511; call++) {
            x.pluck(call % 4, 1260, 1);
        }
        D.due("the 512th call", x.count(5), 511);
        Instrument y = new Instrument();
        D.type(y, "0:0!1;1:0!1;2:0!1;3:0!1;0:0!1;1:0!1;2:0!1;3:0!1;0:0!1;1:0!1;2:0!1;3:0!1;0:0!1;");
        while (y.callsLeft() > 3) {
            D.due("play() of the most notes", y.play(), 13);
        }
        D.due("plucks", y.count(5), 431 * 13);
        D.due("times of the first note", y.played(0, 2), 431 * 4);
        D.due("undo() as the 512th call", y.undo(), 3);
    }

    // "There are at most 12 frets, numbered from 1 by ascending positions (1 to 2400), no two at the same one."

    private static void fretsAreNumberedByPosition() {
        int[][] orders = {
            {1, 2, 3, 4, 5, 6, 1200, 1201, 2397, 2398, 2399, 2400},
            {2400, 2399, 2398, 2397, 1201, 1200, 6, 5, 4, 3, 2, 1},
            {1200, 1, 2400, 2, 2399, 3, 2398, 4, 2397, 5, 1201, 6}};
        for (int[] order : orders) {
            Instrument x = new Instrument();
            for (int i = 0; i < order.length; i++) {
                int number = 1;
                for (int j = 0; j < i; j++) {
                    number += order[j] < order[i] ? 1 : 0;
                }
                D.due("frets: number of " + order[i], x.fret(order[i], order[i] / 2), number);
                D.due("frets: no two at " + order[i], x.fret(order[i], 0), -2);
                D.due("frets: how many", x.count(0), i + 1);
            }
            int[] sorted = order.clone();
            Arrays.sort(sorted);
            for (int fret = 1; fret <= 12; fret++) {
                D.due("frets: position of " + fret, x.fretInfo(fret, 0), sorted[fret - 1]);
                D.due("frets: height of " + fret, x.fretInfo(fret, 1), sorted[fret - 1] / 2);
                D.due("frets: wear of " + fret, x.fretInfo(fret, 2), 0);
            }
            D.due("frets: at most 12", x.fret(1300, 0), -3);
            D.due("frets: undo()", x.undo(), 3);
            D.due("frets: 12 again", x.fret(1300, 0) > 0 ? 1 : 0, 1);
        }
    }

    // "A fret has a height (0 to 2000) and a wear, at first 0."

    private static void wearIsAtFirst0() {
        Instrument x = new Instrument();
        x.fret(1000, 2000);
        x.press(0, 1);
        x.pluck(0, 2000, 999);
        D.due("frets: height 0", x.fret(999, 0), 1);
        D.due("frets: at first 0", x.fretInfo(1, 2), 0);
        D.due("frets: that of the other one", x.fretInfo(2, 2), 999);
        D.due("frets: height 2000", x.fret(2400, 2000), 3);
        D.due("frets: at first 0", x.fretInfo(3, 2), 0);
        x.undo();
        x.undo();
        x.fret(1001, 5);
        D.due("frets: at first 0 where another one was undone", x.fretInfo(2, 2), 0);
        D.due("frets: the other one stays", x.fretInfo(1, 2), 999);
    }

    // "at a position x its height is h + (1500 - h) * (x - p) / (2520 - p)"; "in the way by its height minus this,
    // if that is above 0"

    private static void heightsOfTheLine() {
        for (int p : new int[] {1, 2, 1000, 1259, 2398, 2399}) {
            for (int h : new int[] {0, 1, 777, 1499, 1500, 1501, 1999, 2000}) {
                for (int x : new int[] {p + 1, p + 2, (p + 2400) / 2, 2399, 2400}) {
                    if (x > p && x <= 2400) {
                        heightOfTheLine(p, h, x);
                    }
                }
            }
        }
        // 2000 - 500 * 1 / 2519 is 1999 and a little, 1000 + 500 * 380 / 1520 is 1125 to the point.
        D.due("line: rounded down where it falls", lineAt(1, 2000, 2), 1999);
        D.due("line: to the point", lineAt(1000, 1000, 1380), 1125);
        D.due("line: just ahead of the point", lineAt(1000, 1000, 1379), 1124);
        D.due("line: just behind the point", lineAt(1000, 1000, 1381), 1125);
        D.due("line: falling to the point", lineAt(1000, 2000, 1380), 1875);
        D.due("line: falling just behind the point", lineAt(1000, 2000, 1381), 1874);
        D.due("line: falling just ahead of the point", lineAt(1000, 2000, 1379), 1875);
    }

    private static int lineAt(int p, int h, int x) {
        double exact = h + (1500.0 - h) * (x - p) / (BRIDGE - p);
        // Steps of the exact heights are far greater than what a double errs by.
        return (int) Math.floor(exact + 1e-9);
    }

    private static void heightOfTheLine(int p, int h, int at) {
        int line = lineAt(p, h, at);
        String name = "line from " + p + ", " + h + " at " + at + ": ";
        Instrument x = new Instrument();
        x.fret(p, h);
        x.press(2, 1);
        D.due(name + "a fret as high", x.fret(at, line), 2);
        D.due(name + "is not in the way", x.fretInfo(1, 5), 1);
        D.due(name + "mostFor()", x.mostFor(2), line);
        D.due(name + "sounds from", x.stringInfo(2, 2), 1);
        D.due(name + "does not buzz", x.stringInfo(2, 3), 0);
        D.due(name + "the length", x.stringInfo(2, 4), BRIDGE - p);
        x.undo();
        D.due(name + "a fret that is 1 higher", x.fret(at, line + 1), 2);
        D.due(name + "is in the way", x.fretInfo(1, 5), 2);
        D.due(name + "mostFor()", x.mostFor(2), line);
        D.due(name + "sounds from it", x.stringInfo(2, 2), 2);
        D.due(name + "buzzes", x.stringInfo(2, 3), 1);
        D.due(name + "the length from it", x.stringInfo(2, 4), BRIDGE - at);
    }

    // "The bridge has the height 1500."

    private static void theBridgeHas1500() {
        for (int at : new int[] {2, 1260, 2399, 2400}) {
            D.due("bridge: level line", mostBehind(1, 1500, at), 1500);
            // Above and below by 1, rounded down all the way to the bridge.
            D.due("bridge: a line that rises by 1", mostBehind(1, 1499, at), 1499);
            D.due("bridge: a line that falls by 1", mostBehind(1, 1501, at), 1500);
        }
    }

    private static int mostBehind(int position, int height, int at) {
        Instrument x = new Instrument();
        x.fret(position, height);
        x.fret(at, 0);
        return x.mostFor(2);
    }

    // "A fret behind f (with a greater position) is in the way"

    private static void fretsAheadAreNotInTheWay() {
        Instrument x = new Instrument();
        x.fret(1000, 0);
        x.fret(999, 2000);
        x.fret(1, 2000);
        x.press(0, 3);
        D.due("ahead: sounds from", x.stringInfo(0, 2), 3);
        D.due("ahead: does not buzz", x.stringInfo(0, 3), 0);
        x.fret(1001, 1);
        D.due("behind: sounds from", x.stringInfo(0, 2), 4);
        D.due("behind: pressed at", x.stringInfo(0, 1), 3);
    }

    // "The string sounds from the fret that is most in the way, of several from the first one, and buzzes; if there
    // is none, it sounds from f."

    private static void ofSeveralTheFirstOne() {
        int[][] heightsAndSources = {
            {1500, 1500, 1500, 1}, {1500, 1500, 1501, 4}, {1500, 1501, 1500, 3}, {1501, 1500, 1500, 2},
            {1501, 1501, 1501, 2}, {1501, 1502, 1501, 3}, {1501, 1501, 1502, 4}, {1500, 1501, 1501, 3},
            {1502, 1501, 1502, 2}, {1501, 1502, 1502, 3}, {2000, 2000, 2000, 2}, {1999, 2000, 2000, 3},
            {0, 0, 0, 1}, {0, 0, 2000, 4}};
        for (int[] row : heightsAndSources) {
            Instrument x = new Instrument();
            x.fret(600, 1500);
            // Set in from behind, so that the first one is not the one that was set in first.
            x.fret(1800, row[2]);
            x.fret(1400, row[1]);
            x.fret(1000, row[0]);
            x.press(1, 1);
            String name = "several: " + Arrays.toString(row);
            D.due(name, x.stringInfo(1, 2), row[3]);
            D.due(name, x.fretInfo(1, 5), row[3]);
            D.due(name + " buzzes", x.stringInfo(1, 3), row[3] > 1 ? 1 : 0);
            D.due(name + " buzzes in all", x.count(3), row[3] > 1 ? 1 : 0);
            for (int fret = 1; fret <= 4; fret++) {
                D.due(name + " mask of " + fret, x.fretInfo(fret, 4), fret == row[3] ? 2 : 0);
            }
        }
    }

    private static void inTheWayIsMeasuredFromTheLine() {
        // The line from 0 at 1020 has 500 at 1520 and 1000 at 2020.
        int[][] heightsAndSources = {{601, 1100, 2}, {600, 1100, 2}, {599, 1100, 3}, {500, 1001, 3}, {500, 1000, 1},
            {501, 1000, 2}, {501, 1001, 2}};
        for (int[] row : heightsAndSources) {
            Instrument x = new Instrument();
            x.fret(1020, 0);
            x.fret(1520, row[0]);
            x.fret(2020, row[1]);
            D.due("from the line: " + Arrays.toString(row), x.fretInfo(1, 5), row[2]);
        }
    }

    // "An open string sounds from 0, and never buzzes."

    private static void openStringsNeverBuzz() {
        Instrument x = new Instrument();
        x.fret(1, 2000);
        x.fret(2400, 2000);
        for (int string = 0; string < 4; string++) {
            D.due("open: press", x.press(string, 0), BRIDGE);
            D.due("open: sounds from", x.stringInfo(string, 2), 0);
            D.due("open: buzzes", x.stringInfo(string, 3), 0);
            D.due("open: the length", x.stringInfo(string, 4), BRIDGE);
            D.due("open: pluck at 1", x.pluck(string, 1, 1000), MODES);
        }
        D.due("open: none buzzes", x.count(3), 0);
        D.due("open: none wears", x.fretInfo(1, 2) + x.fretInfo(2, 2), 0);
        for (int string = 0; string < 4; string++) {
            x.press(string, 1);
            D.due("pressed: those that buzz", x.count(3), string + 1);
        }
        D.due("pressed: all buzz", x.fretInfo(2, 4), 15);
    }

    // "The pitch of a mode n is n * tension / sounding length."

    private static void pitchIsRoundedDown() {
        int[] tensions = {1000, 2519, 2520, 2521, 3779, 3780, 5039, 5040, 100000000};
        for (int tension : tensions) {
            Instrument x = new Instrument();
            x.tune(1, tension);
            for (int mode = 1; mode <= MODES; mode++) {
                D.due("pitch: mode " + mode + " of " + tension, x.modeInfo(1, mode, 1), (long) mode * tension / BRIDGE);
            }
        }
        Instrument x = new Instrument();
        x.tune(0, 2519);
        D.due("pitch: just below 1", x.modeInfo(0, 1, 1), 0);
        D.due("pitch: just below 12", x.modeInfo(0, 12, 1), 11);
        x.tune(0, 2520);
        D.due("pitch: 1", x.modeInfo(0, 1, 1), 1);
        D.due("pitch: 12", x.modeInfo(0, 12, 1), 12);
        x.tune(0, 3779);
        D.due("pitch: rounded once", x.modeInfo(0, 3, 1), 4);
    }

    private static void pitchOfTheSoundingLength() {
        Instrument x = new Instrument();
        x.fret(1260, 1500);
        x.fret(2400, 1501);
        x.tune(0, 1260000);
        D.due("pitch: open", x.modeInfo(0, 1, 1), 500);
        x.press(0, 1);
        D.due("pitch: from the fret in the way", x.modeInfo(0, 1, 1), 10500);
        x.level(2, 1500);
        D.due("pitch: from the fret at which it is pressed", x.modeInfo(0, 1, 1), 1000);
        x.tune(0, 100000000);
        x.press(0, 2);
        D.due("pitch: the highest", x.modeInfo(0, 12, 1), 10000000);
    }

    // "the mode n has a node at a position x (above s, below 2520) if n * (x - s) is divisible by l"

    private static void nodesAreAboveTheStart() {
        Instrument x = new Instrument();
        x.fret(1320, 1500);
        x.press(0, 1);
        // 1200 long: a node of 12 each 100.
        D.due("nodes: at the start", x.node(0, 12, 1320), -4);
        D.due("nodes: above it", x.node(0, 12, 1321), 0);
        D.due("nodes: just ahead of the first", x.node(0, 12, 1419), 0);
        D.due("nodes: the first", x.node(0, 12, 1420), 1);
        D.due("nodes: just behind the first", x.node(0, 12, 1421), 0);
        D.due("nodes: the last", x.node(0, 12, 2420), 1);
        D.due("nodes: just ahead of the bridge", x.node(0, 12, 2519), 0);
        D.due("nodes: of 12", x.modeInfo(0, 12, 2), 11);
        D.due("nodes: of 1", x.modeInfo(0, 1, 2), 0);
        D.due("nodes: of 7, which are not at whole positions", x.modeInfo(0, 7, 2), 0);
        D.due("nodes: of 9, some of which are", x.modeInfo(0, 9, 2), 2);
    }

    // "With the position s from which a string sounds and its sounding length l"

    private static void nodesOfAStringThatBuzzes() {
        Instrument x = new Instrument();
        x.fret(20, 1500);
        x.fret(1320, 1600);
        x.press(0, 1);
        x.press(1, 1);
        int[] places = {21, 1319, 1320, 1321, 1720, 1770, 2120};
        int[] ofMode3 = {-4, -4, -4, 0, 1, 0, 1};
        for (int i = 0; i < places.length; i++) {
            D.due("buzz: node at " + places[i], x.node(0, 3, places[i]), ofMode3[i]);
            D.due("buzz: nodeAgain at " + places[i], x.nodeAgain(0, 3, places[i]), ofMode3[i]);
        }
        D.due("buzz: nodes at whole positions", x.modeInfo(0, 9, 2), 2);
        D.due("buzz: pluck where it sounds from", x.pluck(0, 1320, 1000), -2);
        D.due("buzz: pluck between the frets", x.pluck(0, 21, 1000), -2);
        D.due("buzz: pluck behind both", x.pluck(0, 1720, 1000), 8);
        x.pluck(1, 1720, 1000);
        // 1000 * 400 * 1000 / 1200; a finger between the frets damps nothing, one behind both all but the mode 2.
        x.touch(0, 1319);
        x.touch(1, 1920);
        x.run(1);
        D.due("buzz: a finger between the frets", x.modeInfo(0, 1, 0), 333333 - 3333 - 1);
        D.due("buzz: a finger behind both", x.modeInfo(1, 1, 0), 166667 - 1666 - 1);
        D.due("buzz: at a node of the mode 2", x.modeInfo(1, 2, 0), 166666 - 2499 - 1);
    }

    // "The rest of n * (x - s) by l, or l minus this rest, if that is less, is how far x is from a node of n."

    private static void distanceFromTheNearerNode() {
        // The string is 2519 long, so that none is in its middle: 1000 * 1259 * 1000 / 2519 and / 5038.
        for (int place : new int[] {1260, 1261}) {
            Instrument x = new Instrument();
            x.fret(1, 1500);
            x.press(0, 1);
            x.pluck(0, place, 1000);
            D.due("distance: 1259 at " + place, x.modeInfo(0, 1, 0), 499801);
            D.due("distance: 1 at " + place, x.modeInfo(0, 2, 0), 198);
        }
        int[] places = {1259, 1260, 1261};
        int[] ofMode1 = {499603, 500000, 499603};
        int[] ofMode2 = {396, 0, 396};
        for (int i = 0; i < places.length; i++) {
            Instrument x = new Instrument();
            x.pluck(0, places[i], 1000);
            D.due("distance: mode 1 at " + places[i], x.modeInfo(0, 1, 0), ofMode1[i]);
            D.due("distance: mode 2 at " + places[i], x.modeInfo(0, 2, 0), ofMode2[i]);
        }
        for (int place : new int[] {1, 2519}) {
            Instrument x = new Instrument();
            x.pluck(0, place, 1000);
            for (int mode = 1; mode <= MODES; mode++) {
                // n * 1000000 / (2520 * n)
                D.due("distance: mode " + mode + " at " + place, x.modeInfo(0, mode, 0), 396);
            }
        }
    }

    // "greater by force * d * 1000 / (l * n)"

    private static void amplitudesAreRoundedDown() {
        int[] forces = {1, 2, 3, 5, 6, 7, 8, 125, 126, 127};
        int[] due = {0, 0, 1, 1, 2, 2, 3, 49, 50, 50};
        for (int i = 0; i < forces.length; i++) {
            Instrument x = new Instrument();
            x.pluck(0, 1, forces[i]);
            D.due("rounded: mode 1 with " + forces[i], x.modeInfo(0, 1, 0), due[i]);
            D.due("rounded: mode 12 with " + forces[i], x.modeInfo(0, 12, 0), due[i]);
            D.due("rounded: heard with " + forces[i], x.stringInfo(0, 6), due[i] >= 50 ? 4095 : 0);
        }
        Instrument x = new Instrument();
        for (int plucks = 1; plucks <= 5; plucks++) {
            x.pluck(0, 1, 2);
            D.due("rounded: each pluck for itself", x.stringInfo(0, 7), 0);
        }
    }

    // "but not above 1000000"

    private static void amplitudesAreAtMost1000000() {
        int[][] forcesAndSums = {{1000, 999, 999500}, {1000, 1000, 1000000}};
        for (int[] row : forcesAndSums) {
            Instrument x = new Instrument();
            x.pluck(0, 1260, row[0]);
            x.pluck(0, 1260, row[1]);
            D.due("most: below it", x.modeInfo(0, 1, 0), row[2]);
            x.pluck(0, 1260, 1);
            D.due("most: up to it", x.modeInfo(0, 1, 0), 1000000);
            x.pluck(0, 1260, 1);
            D.due("most: not above it", x.modeInfo(0, 1, 0), 1000000);
            x.pluck(0, 1260, 1000);
            D.due("most: far from it", x.modeInfo(0, 1, 0), 1000000);
        }
        Instrument x = new Instrument();
        // Each mode becomes greater by 1000 * 105 * n * 1000 / (2520 * n) = 41666.
        for (int string = 0; string < 4; string++) {
            for (int plucks = 1; plucks <= 24; plucks++) {
                x.pluck(string, 105, 1000);
            }
            D.due("most: just below it", x.modeInfo(string, 12, 0), 999984);
            x.pluck(string, 105, 1000);
            D.due("most: the sum of all", x.stringInfo(string, 7), 12000000);
            D.due("most: all are heard", x.stringInfo(string, 6), 4095);
            D.due("most: all strings", x.count(2), 12 * (string + 1));
        }
        x.set(0, 1000);
        x.set(1, 100);
        D.due("most: less by 1000 to 2100 thousandths", x.run(1), 0);
        D.due("most: nothing is left", x.stringInfo(0, 7), 0);
        x.undo();
        x.set(0, 0);
        x.run(1);
        D.due("most: mode 1 of the most", x.modeInfo(3, 1, 0), 999999);
        D.due("most: mode 10 of the most", x.modeInfo(3, 10, 0), 99999);
        D.due("most: mode 11 of the most", x.modeInfo(3, 11, 0), 0);
        D.due("most: mode 12 of the most", x.modeInfo(3, 12, 0), 0);
    }

    // "Other amplitudes stay (they are never taken away by a pluck)."

    private static void plucksTakeNothingAway() {
        Instrument x = new Instrument();
        x.pluck(0, 1, 1000);
        x.pluck(1, 1, 1000);
        D.due("stay: pluck at a node of the even ones", x.pluck(0, 1260, 1000), MODES);
        for (int mode = 2; mode <= MODES; mode += 2) {
            D.due("stay: mode " + mode, x.modeInfo(0, mode, 0), 396);
        }
        D.due("stay: mode 1", x.modeInfo(0, 1, 0), 500396);
        D.due("stay: the other string", x.stringInfo(1, 7), 12 * 396);
    }

    // "When a string is pressed at another fret, and so sounds from another position, all its amplitudes become 0
    // (if it sounds from the same one, they stay)"

    private static void pressingSilences() {
        Instrument x = new Instrument();
        x.fret(1, 1500);
        x.fret(2, 1400);
        x.fret(2400, 1500);
        x.set(3, 1000000);
        x.pluck(3, 1, 1000);
        x.pluck(0, 1, 4);
        D.due("press: nothing is heard", x.stringInfo(0, 6), 0);
        D.due("press: though something is left", x.stringInfo(0, 7), 12);
        x.press(0, 0);
        D.due("press: open again", x.stringInfo(0, 7), 12);
        x.press(0, 1);
        D.due("press: from 1", x.stringInfo(0, 7), 0);
        x.pluck(0, 2, 1000);
        x.press(0, 1);
        D.due("press: at the same one", x.stringInfo(0, 7), 12 * 396);
        x.press(0, 2);
        D.due("press: from 2400, as 2 is lower", x.stringInfo(0, 4), 120);
        D.due("press: at rest", x.stringInfo(0, 7), 0);
        x.pluck(0, 2460, 1000);
        int sum = x.stringInfo(0, 7);
        x.press(0, 3);
        D.due("press: at another one, from the same", x.stringInfo(0, 7), sum);
        x.press(0, 2);
        D.due("press: and back", x.stringInfo(0, 7), sum);
        x.press(0, 0);
        D.due("press: open", x.stringInfo(0, 7), 0);
        D.due("press: other strings go on", x.stringInfo(3, 7), 12 * 396);
    }

    // "likewise when frets change so that it sounds from another position"

    /** Pressed at 600; the fret at 1400 is in the way by 10, and what is plucked is heard. */
    private static Instrument buzzing() {
        Instrument x = new Instrument();
        x.fret(600, 1500);
        x.fret(1400, 1510);
        x.press(0, 1);
        x.set(3, 1000000);
        x.pluck(0, 2460, 900);
        x.pluck(1, 2460, 900);
        return x;
    }

    private static void restsBehind(String name, Instrument x, boolean rests) {
        D.due(name, x.stringInfo(0, 7) == 0 ? 1 : 0, rests ? 1 : 0);
        D.due(name + ": the open string goes on", x.stringInfo(1, 6), 4095);
    }

    private static void newFretsSilence() {
        int[][] positionsHeightsAndRests = {
            // Ahead of the fret at which it is pressed, as low as the line, and behind, as much in the way.
            {599, 2000, 0}, {601, 1500, 0}, {1399, 1509, 0}, {1401, 1510, 0}, {2400, 1510, 0},
            {1399, 1510, 1}, {601, 1510, 1}, {1399, 1511, 1}, {1401, 1511, 1}, {2400, 2000, 1}};
        for (int[] row : positionsHeightsAndRests) {
            Instrument x = buzzing();
            x.fret(row[0], row[1]);
            restsBehind("a new fret " + Arrays.toString(row), x, row[2] == 1);
            x.undo();
            restsBehind("a new fret undone", x, false);
        }
    }

    private static void filingSilences() {
        Instrument x = buzzing();
        x.level(2, 1501);
        restsBehind("filed to just above the line", x, false);
        x.level(2, 1500);
        restsBehind("filed to the line", x, true);
        Instrument y = buzzing();
        y.fret(2000, 1505);
        y.level(2, 1505);
        restsBehind("filed to as much in the way as a later one", y, false);
        y.level(2, 1504);
        restsBehind("filed to less than a later one", y, true);
        Instrument z = buzzing();
        z.fret(2000, 1505);
        z.level(3, 0);
        restsBehind("another one filed", z, false);
        // The line from 1469 at 600 has 1481 at 1400 and 1491 at 2000: by 29 and by 14.
        z.level(1, 1469);
        restsBehind("the pressed one filed, the same most in the way", z, false);
        Instrument w = buzzing();
        w.level(2, 1500);
        w.press(0, 1);
        w.pluck(0, 2460, 900);
        w.level(1, 1499);
        restsBehind("the pressed one filed, the line below a fret", w, true);
    }

    private static void wearSilencesOneAlone() {
        Instrument x = new Instrument();
        x.fret(600, 1500);
        x.fret(1400, 1500);
        x.press(0, 1);
        x.press(1, 1);
        x.press(2, 2);
        x.pluck(2, 2460, 999);
        int sum = x.stringInfo(2, 7);
        x.pluck(1, 2460, 499);
        x.pluck(0, 2460, 500);
        D.due("wear: just below a micrometre", x.fretInfo(1, 2), 999);
        D.due("wear: both go on", Math.min(x.stringInfo(0, 6), x.stringInfo(1, 6)), 4095);
        D.due("wear: the last one", x.pluck(0, 2460, 1), 0);
        D.due("wear: the fret behind is in the way", x.stringInfo(0, 2), 2);
        D.due("wear: it rests", x.stringInfo(0, 7), 0);
        D.due("wear: the one pressed there, too", x.stringInfo(1, 7), 0);
        D.due("wear: the one behind goes on", x.stringInfo(2, 7), sum);
        D.due("wear: the fret behind does not wear", x.fretInfo(2, 2), 999);
    }
}
