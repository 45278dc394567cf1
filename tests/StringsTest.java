/** Promises 6 to 14: tune, press, touch, pluck, damp, stringInfo, modeInfo, node, nodeAgain. */
public final class StringsTest {
    private static final Due D = new Due();
    private static final int[] NO_STRING = {-1, 4, Integer.MIN_VALUE, Integer.MAX_VALUE};
    private static final int[] NO_MODE = {-1, 0, 13, Integer.MIN_VALUE, Integer.MAX_VALUE};
    private static final int[] NO_PLACE = {-1, 0, 2520, Integer.MIN_VALUE, Integer.MAX_VALUE};

    public static void main(String[] args) {
        promise6Tune();
        promise7Press();
        promise8Touch();
        promise9Pluck();
        promise9PluckOfAFret();
        promise10Damp();
        promise11StringInfo();
        promise12ModeInfo();
        promise12Nodes();
        promises13And14Node();
        promises13And14Agree();
        D.end();
    }

    // "Tunes a string; its amplitudes stay.", "tension: 1000 to 100000000", "Returns the previous tension"

    private static void promise6Tune() {
        Instrument x = new Instrument();
        for (int string : NO_STRING) {
            D.due("6: tune(" + string + ", 5000)", x.tune(string, 5000), -1);
        }
        D.due("6: tune(0, 999)", x.tune(0, 999), -1);
        D.due("6: tune(0, 100000001)", x.tune(0, 100000001), -1);
        D.due("6: no change", x.count(12), 0);
        x.pluck(3, 1260, 100);
        int sum = x.stringInfo(3, 7);
        D.due("6: tune(3, 1000)", x.tune(3, 1000), 2375000);
        D.due("6: tune(3, 100000000)", x.tune(3, 100000000), 1000);
        D.due("6: the tension", x.stringInfo(3, 0), 100000000);
        D.due("6: the amplitudes stay", x.stringInfo(3, 7), sum);
        D.due("6: the pitch", x.modeInfo(3, 12, 1), 476190);
        D.due("6: others stay", x.stringInfo(2, 0), 1780000);
        D.due("6: three changes", x.count(12), 3);
    }

    // "fret: number of a fret, or 0 for none", "Returns the sounding length then"

    private static void promise7Press() {
        Instrument x = new Instrument();
        for (int string : NO_STRING) {
            D.due("7: press(" + string + ", 0)", x.press(string, 0), -1);
        }
        D.due("7: press(0, 1) without frets", x.press(0, 1), -1);
        D.due("7: press(0, -1)", x.press(0, -1), -1);
        D.due("7: no change", x.count(12), 0);
        D.due("7: press(0, 0)", x.press(0, 0), 2520);
        D.due("7: it is a change", x.count(12), 1);
        x.fret(500, 1000);
        x.fret(1000, 1000);
        x.fret(1500, 2000);
        D.due("7: press(0, 4)", x.press(0, 4), -1);
        x.pluck(0, 1260, 100);
        int open = x.stringInfo(0, 7);
        D.due("7: press(0, 0)", x.press(0, 0), 2520);
        D.due("7: the amplitudes stay", x.stringInfo(0, 7), open);
        D.due("7: press(0, 1)", x.press(0, 1), 1020);
        D.due("7: it rests", x.stringInfo(0, 7), 0);
        D.due("7: it buzzes", x.stringInfo(0, 3), 1);
        x.pluck(0, 2000, 100);
        int sum = x.stringInfo(0, 7);
        D.due("7: press(0, 2)", x.press(0, 2), 1020);
        D.due("7: it sounds from the same fret", x.stringInfo(0, 2), 3);
        D.due("7: so the amplitudes stay", x.stringInfo(0, 7), sum);
        D.due("7: press(0, 3)", x.press(0, 3), 1020);
        D.due("7: it does not buzz", x.stringInfo(0, 3), 0);
        D.due("7: the amplitudes stay", x.stringInfo(0, 7), sum);
        D.due("7: press(0, 0)", x.press(0, 0), 2520);
        D.due("7: it rests", x.stringInfo(0, 7), 0);
        D.due("7: an open one never buzzes", x.stringInfo(0, 3), 0);
    }

    // "position: 1 to 2519, or 0 to take the finger away", "Returns the previous position, 0 if there was none"

    private static void promise8Touch() {
        Instrument x = new Instrument();
        for (int string : NO_STRING) {
            D.due("8: touch(" + string + ", 5)", x.touch(string, 5), -1);
        }
        D.due("8: touch(0, -1)", x.touch(0, -1), -1);
        D.due("8: touch(0, 2520)", x.touch(0, 2520), -1);
        D.due("8: no change", x.count(12), 0);
        D.due("8: touch(0, 2519)", x.touch(0, 2519), 0);
        D.due("8: touch(0, 1)", x.touch(0, 1), 2519);
        D.due("8: the finger", x.stringInfo(0, 5), 1);
        D.due("8: others have none", x.stringInfo(1, 5), 0);
        D.due("8: touch(0, 0)", x.touch(0, 0), 1);
        D.due("8: touch(0, 0)", x.touch(0, 0), 0);
        D.due("8: four changes", x.count(12), 4);
    }

    // "position: 1 to 2519", "force: 1 to 1000", "Returns the number of its modes that are heard then"

    private static void promise9Pluck() {
        Instrument x = new Instrument();
        for (int string : NO_STRING) {
            D.due("9: pluck(" + string + ", 5, 5)", x.pluck(string, 5, 5), -1);
        }
        for (int place : NO_PLACE) {
            D.due("9: pluck(0, " + place + ", 5)", x.pluck(0, place, 5), -1);
        }
        D.due("9: pluck(0, 5, 0)", x.pluck(0, 5, 0), -1);
        D.due("9: pluck(0, 5, 1001)", x.pluck(0, 5, 1001), -1);
        D.due("9: no change", x.count(12) + x.count(5), 0);
        D.due("9: pluck(0, 840, 60)", x.pluck(0, 840, 60), 8);
        // 60 * distance * 1000 / (2520 * n) with the distance 840, 0 at the modes 3, 6, 9, 12.
        int[] amplitudes = {20000, 10000, 0, 5000, 4000, 0, 2857, 2500, 0, 2000, 1818, 0};
        for (int mode = 1; mode <= 12; mode++) {
            D.due("9: modeInfo(0, " + mode + ", 0)", x.modeInfo(0, mode, 0), amplitudes[mode - 1]);
        }
        D.due("9: a second one adds to it", x.pluck(0, 840, 60), 8);
        D.due("9: modeInfo(0, 7, 0)", x.modeInfo(0, 7, 0), 5714);
        D.due("9: others rest", x.stringInfo(1, 7), 0);
        D.due("9: pluck(1, 1, 1)", x.pluck(1, 1, 1), 0);
        D.due("9: pluck(1, 2519, 1)", x.pluck(1, 2519, 1), 0);
        for (int times = 0; times < 3; times++) {
            x.pluck(2, 1260, 1000);
        }
        D.due("9: not above 1000000", x.modeInfo(2, 1, 0), 1000000);
        D.due("9: below it", x.modeInfo(2, 3, 0), 499998);
        D.due("9: plucks", x.stringInfo(2, 8), 3);
        D.due("9: plucks in all", x.count(5), 7);
    }

    // "NOT_POSSIBLE if position is not above that from which it sounds"

    private static void promise9PluckOfAFret() {
        Instrument x = new Instrument();
        x.fret(1000, 1000);
        x.press(0, 1);
        D.due("9: pluck at the fret", x.pluck(0, 1000, 5), -2);
        D.due("9: pluck ahead of it", x.pluck(0, 1, 5), -2);
        D.due("9: pluck with a wrong force there", x.pluck(0, 1, 0), -1);
        D.due("9: no change", x.count(12) + x.fretInfo(1, 2), 2);
        D.due("9: pluck behind it", x.pluck(0, 1001, 1000), 12);
        // 1000 * 1 * 1000 / 1520
        D.due("9: modeInfo(0, 1, 0)", x.modeInfo(0, 1, 0), 657);
        D.due("9: modeInfo(0, 12, 0)", x.modeInfo(0, 12, 0), 657);
        D.due("9: open at 1000", x.pluck(1, 1000, 5) > 0 ? 1 : 0, 1);
        x.damp(0);
        x.set(4, 658);
        D.due("9: below the hearing", x.pluck(0, 1001, 1000), 0);
        x.damp(0);
        x.set(4, 657);
        D.due("9: at the hearing", x.pluck(0, 1001, 1000), 12);
    }

    // "Makes all amplitudes of a string 0.", "Returns the number of its modes that were heard"

    private static void promise10Damp() {
        Instrument x = new Instrument();
        for (int string : NO_STRING) {
            D.due("10: damp(" + string + ")", x.damp(string), -1);
        }
        D.due("10: no change", x.count(12), 0);
        x.pluck(0, 1260, 100);
        x.pluck(1, 1260, 100);
        int other = x.stringInfo(1, 7);
        D.due("10: damp(0)", x.damp(0), 6);
        D.due("10: it rests", x.stringInfo(0, 7), 0);
        D.due("10: the other does not", x.stringInfo(1, 7), other);
        D.due("10: damp(0)", x.damp(0), 0);
        D.due("10: four changes", x.count(12), 4);
        D.due("10: plucks stay", x.stringInfo(0, 8), 1);
        x.pluck(0, 2519, 1000);
        D.due("10: damp(0) of all modes", x.damp(0), 12);
        for (int mode = 1; mode <= 12; mode++) {
            D.due("10: modeInfo(0, " + mode + ", 0)", x.modeInfo(0, mode, 0), 0);
        }
    }

    // "what: 0: its tension; .. 8: how often it was plucked"

    private static void promise11StringInfo() {
        Instrument x = new Instrument();
        x.fret(1000, 1000);
        x.fret(1500, 1900);
        x.press(2, 1);
        x.tune(2, 4444);
        x.touch(2, 77);
        // 1020 long, plucked in the middle: the odd modes, 500000 / n.
        D.due("11: pluck(2, 2010, 1000)", x.pluck(2, 2010, 1000), 6);
        int[] infos = {4444, 1, 2, 1, 1020, 77, 1365, 500000 + 166666 + 100000 + 71428 + 55555 + 45454, 1};
        for (int what = 0; what < infos.length; what++) {
            D.due("11: stringInfo(2, " + what + ")", x.stringInfo(2, what), infos[what]);
        }
        D.due("11: stringInfo(2, -1)", x.stringInfo(2, -1), -1);
        D.due("11: stringInfo(2, 9)", x.stringInfo(2, 9), -1);
        for (int string : NO_STRING) {
            D.due("11: stringInfo(" + string + ", 0)", x.stringInfo(string, 0), -1);
        }
        x.pluck(1, 2519, 1000);
        // 396 each
        D.due("11: the sum of all twelve", x.stringInfo(1, 7), 4752);
        D.due("11: all twelve are heard", x.stringInfo(1, 6), 4095);
        x.set(4, 71429);
        D.due("11: what is heard", x.stringInfo(2, 6), 21);
        x.set(4, 0);
        D.due("11: rest is never heard", x.stringInfo(2, 6), 1365);
    }

    // "what: 0: its amplitude; 1: its pitch", "mode: 1 to 12"

    private static void promise12ModeInfo() {
        Instrument x = new Instrument();
        D.due("12: modeInfo(0, 1, 1)", x.modeInfo(0, 1, 1), 396);
        D.due("12: modeInfo(0, 2, 1)", x.modeInfo(0, 2, 1), 793);
        D.due("12: modeInfo(3, 12, 1)", x.modeInfo(3, 12, 1), 11309);
        x.tune(1, 100000000);
        x.fret(2400, 1500);
        x.press(1, 1);
        D.due("12: the highest pitch", x.modeInfo(1, 12, 1), 10000000);
        for (int string : NO_STRING) {
            D.due("12: modeInfo(" + string + ", 1, 0)", x.modeInfo(string, 1, 0), -1);
        }
        for (int mode : NO_MODE) {
            D.due("12: modeInfo(0, " + mode + ", 0)", x.modeInfo(0, mode, 0), -1);
        }
        D.due("12: modeInfo(0, 1, -1)", x.modeInfo(0, 1, -1), -1);
        D.due("12: modeInfo(0, 1, 3)", x.modeInfo(0, 1, 3), -1);
        x.pluck(0, 1260, 5);
        D.due("12: modeInfo(0, 1, 0)", x.modeInfo(0, 1, 0), 2500);
    }

    /** A string that is pressed at a fret at the position, or open at 0. */
    private static Instrument soundingFrom(int string, int position) {
        Instrument x = new Instrument();
        if (position > 0) {
            x.fret(position, 900);
            x.press(string, 1);
        }
        return x;
    }

    /** Whether a place is a node by the words of the terms. */
    private static int isNode(int mode, int position, int place) {
        return mode * (place - position) % (2520 - position) == 0 ? 1 : 0;
    }

    // "2: its nodes between the position from which the string sounds and the bridge (both left out) that are at
    // whole positions"

    private static void promise12Nodes() {
        int[] positions = {0, 1, 2, 20, 420, 840, 1020, 2399, 2400};
        for (int position : positions) {
            Instrument x = soundingFrom(0, position);
            for (int mode = 1; mode <= 12; mode++) {
                int nodes = 0;
                for (int place = position + 1; place < 2520; place++) {
                    nodes += isNode(mode, position, place);
                }
                D.due("12: nodes of " + mode + " from " + position, x.modeInfo(0, mode, 2), nodes);
            }
        }
    }

    // "Returns 1 if it has, otherwise 0; .. NOT_FOUND if position is not above that from which the string sounds."

    private static void promises13And14Node() {
        Instrument x = new Instrument();
        for (int string : NO_STRING) {
            D.due("13: node(" + string + ", 1, 1)", x.node(string, 1, 1), -1);
            D.due("14: nodeAgain(" + string + ", 1, 1)", x.nodeAgain(string, 1, 1), -1);
        }
        for (int mode : NO_MODE) {
            D.due("13: node(0, " + mode + ", 1)", x.node(0, mode, 1), -1);
            D.due("14: nodeAgain(0, " + mode + ", 1)", x.nodeAgain(0, mode, 1), -1);
        }
        for (int place : NO_PLACE) {
            D.due("13: node(0, 1, " + place + ")", x.node(0, 1, place), -1);
            D.due("14: nodeAgain(0, 1, " + place + ")", x.nodeAgain(0, 1, place), -1);
        }
        x.fret(1020, 1500);
        x.press(1, 1);
        int[] places = {1, 1020, 1021, 1520, 1770, 2020, 2519};
        int[] ofMode3 = {-4, -4, 0, 1, 0, 1, 0};
        int[] ofMode6 = {-4, -4, 0, 1, 1, 1, 0};
        for (int i = 0; i < places.length; i++) {
            D.due("13: node(1, 3, " + places[i] + ")", x.node(1, 3, places[i]), ofMode3[i]);
            D.due("14: nodeAgain(1, 3, " + places[i] + ")", x.nodeAgain(1, 3, places[i]), ofMode3[i]);
            D.due("13: node(1, 6, " + places[i] + ")", x.node(1, 6, places[i]), ofMode6[i]);
            D.due("14: nodeAgain(1, 6, " + places[i] + ")", x.nodeAgain(1, 6, places[i]), ofMode6[i]);
        }
        D.due("13: open", x.node(0, 2, 1260), 1);
        D.due("14: open", x.nodeAgain(0, 2, 1260), 1);
        D.due("13: a wrong mode ahead of the fret", x.node(1, 13, 1), -1);
        D.due("14: a wrong mode ahead of the fret", x.nodeAgain(1, 13, 1), -1);
        D.due("13: no change", x.count(12), 2);
    }

    // "Tells the same in a second way"

    private static void promises13And14Agree() {
        int[] positions = {0, 1, 20, 420, 840, 1025, 2399, 2400};
        for (int position : positions) {
            for (int mode = 1; mode <= 12; mode++) {
                Instrument x = soundingFrom(3, position);
                for (int place = position + 1; place < 2520; place++) {
                    if (x.callsLeft() < 2) {
                        x = soundingFrom(3, position);
                    }
                    int due = isNode(mode, position, place);
                    D.due("13: node of " + mode + " at " + place, x.node(3, mode, place), due);
                    D.due("14: nodeAgain of " + mode + " at " + place, x.nodeAgain(3, mode, place), due);
                }
            }
        }
    }
}
