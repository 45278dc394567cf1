/** The sentences of "Terms" under Ticks, Wear and Beats that name an edge, one test for each. */
public final class TermsOfPlayingTest {
    private static final Due D = new Due();
    private static final int MODES = 12;

    public static void main(String[] args) {
        settingsAtFirst();
        lossIsRoundedDown();
        atLeast0ThenOneLess();
        lossOfHigherModes();
        fingersFirst();
        fingersAboveTheStart();
        dampingFromNoneToAll();
        allStringsInATick();
        heardFromTheHearingOn();
        theGreatestHearing();
        wearOfOneFret();
        wearOfTwoFrets();
        wearForAMicrometre();
        wearForTheMost();
        heightAbove0();
        wearIsLookedAtBehindAPluckAlone();
        wearForTheseFretsAlone();
        lossByWearIsCounted();
        beatsOfWhatIsHeard();
        beatsOfPitchesThatDiffer();
        D.end();
    }

    /** Each mode of the string 0 gets the amplitude force * 1000 / 2520; no loss at all. */
    private static Instrument evenly(int force) {
        Instrument x = new Instrument();
        x.set(0, 0);
        x.set(1, 0);
        x.pluck(0, 1, force);
        return x;
    }

    // "The settings are (in parentheses: range; first value)"

    private static void settingsAtFirst() {
        int[] first = {10, 5, 500, 1000, 50};
        int[] least = {0, 0, 0, 1, 0};
        int[] most = {1000, 100, 1000, 1000000, 100000};
        for (int what = 0; what < 5; what++) {
            Instrument x = new Instrument();
            D.due("setting " + what + " at first", x.count(7 + what), first[what]);
            D.due("setting " + what + " below the least", x.set(what, least[what] - 1), -1);
            D.due("setting " + what + " stays", x.count(7 + what), first[what]);
            D.due("setting " + what + " to the least", x.set(what, least[what]), first[what]);
            D.due("setting " + what, x.count(7 + what), least[what]);
            D.due("setting " + what + " beside the least", x.set(what, least[what] + 1), least[what]);
            D.due("setting " + what + " beside the most", x.set(what, most[what] - 1), least[what] + 1);
            D.due("setting " + what + " to the most", x.set(what, most[what]), most[what] - 1);
            D.due("setting " + what + " above the most", x.set(what, most[what] + 1), -1);
            for (int other = 0; other < 5; other++) {
                D.due("setting " + other, x.count(7 + other), other == what ? most[what] : first[other]);
            }
        }
    }

    // "then a becomes a - a * (loss + loss of higher modes * (n - 1)) / 1000"

    private static void lossIsRoundedDown() {
        // Force, loss, and what is left of force * 1000 / 2520 with the one less.
        int[][] rows = {{1000, 0, 395}, {1000, 2, 395}, {1000, 3, 394}, {1000, 990, 3}, {1000, 997, 1}, {1000, 998, 0},
            {1000, 999, 0}, {1000, 1000, 0}, {8, 333, 2}, {8, 334, 1}, {8, 666, 1}, {8, 667, 0}, {6, 499, 1}, {6, 500, 0},
            {3, 0, 0}, {3, 999, 0}, {3, 1000, 0}};
        for (int[] row : rows) {
            Instrument x = evenly(row[0]);
            x.set(0, row[1]);
            x.run(1);
            for (int mode = 1; mode <= MODES; mode++) {
                D.due("loss " + row[1] + " of force " + row[0], x.modeInfo(0, mode, 0), row[2]);
            }
        }
    }

    // "but at least 0, and then, if it is above 0, 1 less"

    private static void atLeast0ThenOneLess() {
        Instrument x = evenly(8);
        for (int left = 2; left >= 0; left--) {
            x.run(1);
            D.due("one less each tick", x.stringInfo(0, 7), left * MODES);
        }
        x.run(1);
        D.due("not below 0", x.stringInfo(0, 7), 0);
        x.run(500);
        D.due("still not", x.stringInfo(0, 7), 0);
        Instrument y = evenly(1000);
        y.run(395);
        D.due("1 is left", y.stringInfo(0, 7), MODES);
        y.run(1);
        D.due("0 is left", y.stringInfo(0, 7), 0);
        Instrument z = evenly(1000);
        z.run(500);
        D.due("more ticks than it has", z.stringInfo(0, 7), 0);
    }

    private static void lossOfHigherModes() {
        // 396 less 0, 100, .., 1100 thousandths, then 1 less.
        int[] left = {395, 356, 316, 277, 237, 197, 158, 118, 79, 39, 0, 0};
        Instrument x = evenly(1000);
        x.set(1, 100);
        x.run(1);
        // With the loss 100, each as the next one without it.
        Instrument y = evenly(1000);
        y.set(1, 100);
        y.set(0, 100);
        y.run(1);
        for (int mode = 1; mode <= MODES; mode++) {
            D.due("higher modes: " + mode, x.modeInfo(0, mode, 0), left[mode - 1]);
            D.due("both losses: " + mode, y.modeInfo(0, mode, 0), mode < MODES ? left[mode] : 0);
        }
        Instrument z = evenly(1000);
        z.set(1, 1);
        z.run(1);
        // 396 * 2 / 1000 is 0, 396 * 3 / 1000 is 1.
        D.due("higher modes: 2 thousandths", z.modeInfo(0, 3, 0), 395);
        D.due("higher modes: 3 thousandths", z.modeInfo(0, 4, 0), 394);
    }

    // "first, if a finger touches the string at a position above s at which n has no node, a becomes
    // a - a * damping / 1000; then .."

    private static void fingersFirst() {
        Instrument x = evenly(13);
        x.touch(0, 1);
        x.set(2, 500);
        x.set(0, 333);
        x.run(1);
        // 5 - 2 = 3, 3 - 0 = 3, 2; the loss first would leave 5 - 1 = 4, 4 - 2 = 2, 1.
        D.due("the finger first", x.stringInfo(0, 7), 2 * MODES);
    }

    private static void fingersAboveTheStart() {
        int[] places = {0, 1, 1319, 1320, 1321, 1419, 1420, 1421, 1620, 1720, 1920, 2420, 2519};
        // Which modes have a node there, as a bit mask: those where the finger is not above the start have none damped.
        int[] masks = {4095, 4095, 4095, 4095, 0, 0, 2048, 0, 2184, 2340, 2730, 2048, 0};
        for (int i = 0; i < places.length; i++) {
            Instrument x = new Instrument();
            x.fret(1320, 1500);
            x.press(0, 1);
            x.set(0, 0);
            x.set(1, 0);
            x.pluck(0, 1321, 1000);
            x.touch(0, places[i]);
            D.due("a finger takes nothing away by itself", x.stringInfo(0, 7), 833 * MODES);
            x.run(1);
            for (int mode = 1; mode <= MODES; mode++) {
                boolean free = (masks[i] >> mode - 1 & 1) == 1;
                // 833 - 416 - 1 where it is damped.
                D.due("a finger at " + places[i] + ": mode " + mode, x.modeInfo(0, mode, 0), free ? 832 : 416);
                // All end below the hearing of 50: 833 - 49 ticks without the finger.
                D.due("ticksTo with a finger at " + places[i] + ": " + mode, x.ticksTo(0, mode), free ? 783 : 4);
            }
            x.touch(0, 0);
            x.run(1);
            D.due("no finger", x.modeInfo(0, 1, 0), (masks[i] & 1) == 1 ? 831 : 415);
        }
    }

    private static void dampingFromNoneToAll() {
        int[][] dampingsAndLeft = {{0, 395}, {1, 395}, {2, 395}, {3, 394}, {500, 197}, {997, 1}, {998, 0}, {1000, 0}};
        for (int[] row : dampingsAndLeft) {
            Instrument x = evenly(1000);
            x.touch(0, 2519);
            x.set(2, row[0]);
            x.run(1);
            D.due("damping " + row[0], x.stringInfo(0, 7), row[1] * MODES);
        }
    }

    // "In a tick, for each string and each mode"

    private static void allStringsInATick() {
        Instrument x = evenly(1000);
        for (int string = 1; string < 4; string++) {
            x.pluck(string, 1, 1000);
        }
        x.touch(2, 1);
        D.due("tick: all are heard", x.run(1), 48);
        int[] left = {395, 395, 197, 395};
        for (int string = 0; string < 4; string++) {
            D.due("tick: string " + string, x.stringInfo(string, 7), left[string] * MODES);
        }
        D.due("tick: one", x.count(1), 1);
    }

    // "A mode is heard if its amplitude is at least the hearing, and above 0."

    private static void heardFromTheHearingOn() {
        // Force, hearing, and whether force * 1000 / 2520 is heard.
        int[][] rows = {{126, 50, 1}, {125, 50, 0}, {126, 51, 0}, {126, 49, 1}, {2, 0, 0}, {3, 0, 1}, {3, 1, 1}, {2, 1, 0},
            {3, 2, 0}, {6, 2, 1}};
        for (int[] row : rows) {
            Instrument x = new Instrument();
            x.set(4, row[1]);
            int modes = row[2] * MODES;
            String name = "hearing " + row[1] + ", force " + row[0] + ": ";
            D.due(name + "pluck()", x.pluck(0, 1, row[0]), modes);
            D.due(name + "count(2)", x.count(2), modes);
            D.due(name + "stringInfo(0, 6)", x.stringInfo(0, 6), row[2] * 4095);
            D.due(name + "those of another string", x.stringInfo(1, 6), 0);
            D.due(name + "ticksTo()", x.ticksTo(0, 1) > 0 ? 1 : 0, row[2]);
            x.pluck(1, 1260, 1000);
            D.due(name + "beat()", x.beat(0, 1, 1, 1), row[2] == 1 ? 133 : -4);
            D.due(name + "slowest()", x.slowest(0, 1, 0) > 0 ? 1 : 0, row[2]);
            D.due(name + "damp()", x.damp(0), modes);
            D.due(name + "nothing is left", x.stringInfo(0, 7), 0);
        }
    }

    private static void theGreatestHearing() {
        Instrument x = new Instrument();
        x.set(0, 0);
        x.set(4, 100000);
        D.due("the greatest hearing: 99500", x.pluck(0, 1260, 199), 0);
        D.due("the greatest hearing: 100000", x.pluck(0, 1260, 1), 1);
        D.due("the greatest hearing: run(1)", x.run(1), 0);
        D.due("the greatest hearing: 99999", x.modeInfo(0, 1, 0), 99999);
    }

    // "By a pluck of a string that sounds from a fret, the wear of this fret grows by the force, and if the string
    // buzzes, that of the fret at which it is pressed does so, too."

    private static void wearOfOneFret() {
        Instrument x = new Instrument();
        x.fret(1000, 1500);
        x.fret(1500, 1500);
        x.press(0, 1);
        for (int force : new int[] {1, 998}) {
            x.pluck(0, 2000, force);
        }
        D.due("wear: grows by the force", x.fretInfo(1, 2), 999);
        D.due("wear: that of another one does not", x.fretInfo(2, 2), 0);
        x.pluck(1, 2000, 1000);
        D.due("wear: not by an open string", x.fretInfo(1, 2) + x.fretInfo(2, 2), 999);
        x.press(2, 2);
        x.pluck(2, 2000, 7);
        D.due("wear: of the second one", x.fretInfo(2, 2), 7);
        D.due("wear: not of the one ahead", x.fretInfo(1, 2), 999);
        D.due("wear: a refused pluck", x.pluck(0, 1000, 5), -2);
        D.due("wear: does not wear", x.fretInfo(1, 2), 999);
    }

    private static void wearOfTwoFrets() {
        Instrument x = new Instrument();
        x.fret(400, 2000);
        x.fret(1000, 1500);
        x.fret(1500, 1501);
        x.fret(2000, 1505);
        x.press(3, 2);
        x.set(3, 10000);
        x.pluck(3, 2400, 700);
        x.pluck(3, 2400, 1);
        int[] due = {0, 701, 0, 701};
        for (int fret = 1; fret <= 4; fret++) {
            D.due("wear of two: " + fret, x.fretInfo(fret, 2), due[fret - 1]);
        }
    }

    // "As long as the wear of a fret is at least the setting 3, .. its wear becomes less by this, and its height 1 less"

    private static Instrument pressed(int height) {
        Instrument x = new Instrument();
        x.fret(1000, height);
        x.press(0, 1);
        return x;
    }

    private static void wearForAMicrometre() {
        // Setting 3, force, and the height and the wear then, from the height 1400.
        int[][] rows = {{1000, 999, 1400, 999}, {1000, 1000, 1399, 0}, {999, 1000, 1399, 1}, {501, 1000, 1399, 499},
            {500, 1000, 1398, 0}, {499, 1000, 1398, 2}, {1, 1, 1399, 0}, {1, 1000, 400, 0}, {2, 999, 901, 1},
            {1001, 1000, 1400, 1000}};
        for (int[] row : rows) {
            Instrument x = pressed(1400);
            x.set(3, row[0]);
            x.pluck(0, 2000, row[1]);
            String name = "wear of " + row[1] + ", " + row[0] + " for one: ";
            D.due(name + "height", x.fretInfo(1, 1), row[2]);
            D.due(name + "wear", x.fretInfo(1, 2), row[3]);
            D.due(name + "lost", x.count(6), 1400 - row[2]);
            x.undo();
            D.due(name + "height behind undo()", x.fretInfo(1, 1), 1400);
            D.due(name + "wear behind undo()", x.fretInfo(1, 2), 0);
            D.due(name + "lost behind undo()", x.count(6), 0);
        }
    }

    private static void wearForTheMost() {
        Instrument x = pressed(2000);
        x.set(3, 1000000);
        D.type(x, "0:1!1000;0:1!1000;0:1!1000;0:1!1000;0:1!1000;0:1!1000;0:1!1000;0:1!1000;");
        for (int plays = 1; plays <= 124; plays++) {
            x.play();
        }
        x.clearText();
        D.type(x, "0:1!1000;0:1!1000;0:1!1000;0:1!1000;0:1!1000;0:1!1000;0:1!1000;");
        x.play();
        D.due("wear for the most: 7 more", x.fretInfo(1, 2), 999000);
        x.pluck(0, 2460, 999);
        D.due("wear for the most: just below", x.fretInfo(1, 2), 999999);
        D.due("wear for the most: the height", x.fretInfo(1, 1), 2000);
        x.pluck(0, 2460, 1);
        D.due("wear for the most: at it", x.fretInfo(1, 2), 0);
        D.due("wear for the most: the height", x.fretInfo(1, 1), 1999);
        D.due("wear for the most: lost", x.count(6), 1);
    }

    // "and its height is above 0"

    private static void heightAbove0() {
        // The height, and the height and the wear behind a pluck with 10 where each one wears a micrometre.
        int[][] rows = {{0, 0, 10}, {1, 0, 9}, {9, 0, 1}, {10, 0, 0}, {11, 1, 0}};
        for (int[] row : rows) {
            Instrument x = pressed(row[0]);
            x.set(3, 1);
            x.pluck(0, 2000, 10);
            D.due("height " + row[0] + " becomes", x.fretInfo(1, 1), row[1]);
            D.due("height " + row[0] + ", the wear", x.fretInfo(1, 2), row[2]);
            D.due("height " + row[0] + ", lost", x.count(6), row[0] - row[1]);
        }
        Instrument x = pressed(0);
        x.pluck(0, 2000, 1000);
        x.pluck(0, 2000, 1000);
        D.due("height 0: the wear grows", x.fretInfo(1, 2), 2000);
        D.due("height 0: filed to itself", x.level(1, 0), 0);
        D.due("height 0: the wear begins anew", x.fretInfo(1, 2), 0);
    }

    // "this is looked at behind a pluck alone, for these frets"

    private static void wearIsLookedAtBehindAPluckAlone() {
        Instrument x = pressed(1400);
        x.pluck(0, 2000, 900);
        x.set(3, 100);
        x.press(0, 1);
        x.press(1, 1);
        x.touch(0, 5);
        x.run(500);
        x.tune(0, 5000);
        x.damp(0);
        x.fret(500, 5);
        D.due("looked at: not by other calls", x.fretInfo(2, 1), 1400);
        D.due("looked at: nor is the wear", x.fretInfo(2, 2), 900);
        x.pluck(2, 2000, 1000);
        D.due("looked at: nor by an open string's pluck", x.fretInfo(2, 1), 1400);
        x.pluck(1, 2000, 99);
        D.due("looked at: by a pluck from it", x.fretInfo(2, 1), 1391);
        D.due("looked at: with the rest", x.fretInfo(2, 2), 99);
    }

    private static void wearForTheseFretsAlone() {
        Instrument x = new Instrument();
        x.fret(1000, 1500);
        x.fret(1500, 1400);
        x.fret(2000, 1300);
        for (int fret = 1; fret <= 3; fret++) {
            x.press(0, fret);
            x.pluck(0, 2400, 950);
        }
        x.set(3, 100);
        x.press(0, 2);
        x.pluck(0, 2400, 1);
        int[] heights = {1500, 1391, 1300};
        int[] wears = {950, 51, 950};
        for (int fret = 1; fret <= 3; fret++) {
            D.due("these frets: height of " + fret, x.fretInfo(fret, 1), heights[fret - 1]);
            D.due("these frets: wear of " + fret, x.fretInfo(fret, 2), wears[fret - 1]);
        }
    }

    private static void lossByWearIsCounted() {
        Instrument x = new Instrument();
        x.fret(1000, 1500);
        x.fret(1500, 1510);
        x.press(0, 1);
        x.set(3, 100);
        x.pluck(0, 2400, 300);
        D.due("lost: by both frets", x.count(6), 6);
        D.due("lost: by the one pressed at", x.fretInfo(1, 1), 1497);
        D.due("lost: by the one it sounds from", x.fretInfo(2, 1), 1507);
        x.level(1, 1000);
        D.due("lost: not by filing", x.count(6), 6);
        x.pluck(0, 2400, 99);
        D.due("lost: nothing more", x.count(6), 6);
        x.pluck(0, 2400, 1);
        D.due("lost: two more", x.count(6), 8);
        x.undo();
        D.due("lost: undone", x.count(6), 6);
    }

    // "A mode n of a string and a mode m of another one beat if both are heard and their pitches differ"

    private static void beatsOfWhatIsHeard() {
        // The modes of 0 have 50, those of 1 have 51.
        int[][] hearingsAndBeats = {{49, 133}, {50, 133}, {51, -4}, {52, -4}};
        for (int[] row : hearingsAndBeats) {
            Instrument x = new Instrument();
            x.pluck(0, 1, 126);
            x.pluck(1, 1, 129);
            x.set(4, row[0]);
            D.due("beats: hearing " + row[0], x.beat(0, 1, 1, 1), row[1]);
            D.due("beats: the other way round", x.beat(1, 1, 0, 1), row[1]);
            D.due("beats: slowest", x.slowest(0, 1, 0) > 0 ? 1 : 0, row[1] > 0 ? 1 : 0);
            D.due("beats: slowest the other way round", x.slowest(1, 0, 0) > 0 ? 1 : 0, row[1] > 0 ? 1 : 0);
        }
    }

    private static void beatsOfPitchesThatDiffer() {
        // The pitch of the mode 1 of the string 1 is 1000.
        int[][] tensionsAndBeats = {{2517479, 2}, {2517480, 1}, {2519999, 1}, {2520000, -4}, {2522519, -4}, {2522520, 1},
            {2525039, 1}, {2525040, 2}};
        for (int[] row : tensionsAndBeats) {
            Instrument x = new Instrument();
            x.tune(1, 2520000);
            x.tune(0, row[0]);
            x.pluck(0, 1260, 1000);
            x.pluck(1, 1260, 1000);
            D.due("beats: of tension " + row[0], x.beat(0, 1, 1, 1), row[1]);
            D.due("beats: the other way round", x.beat(1, 1, 0, 1), row[1]);
        }
        Instrument x = new Instrument();
        x.fret(2400, 1500);
        x.press(0, 1);
        x.tune(0, 100000000);
        x.tune(1, 1000);
        x.pluck(0, 2401, 1000);
        x.pluck(1, 1, 1000);
        D.due("beats: the greatest", x.beat(0, 12, 1, 1), 10000000);
        D.due("beats: the greatest, the other way round", x.beat(1, 1, 0, 12), 10000000);
    }
}
