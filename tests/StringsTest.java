/** Promises 6 to 14: tune, press, touch, pluck, damp, stringInfo, modeInfo, node, nodeAgain. */
public final class StringsTest {
    private static final Due D = new Due();
    private static final int[] NO_STRING = {-1, 4, Integer.MIN_VALUE, Integer.MAX_VALUE};
    private static final int[] NO_MODE = {-1, 0, 13, Integer.MIN_VALUE, Integer.MAX_VALUE};
    private static final int[] NO_PLACE = {-1, 0, 2520, Integer.MIN_VALUE, Integer.MAX_VALUE};

    public static void main(String[] args) {
        promise6Tune();
        promise7Press();
        promise8Touch();
        promise9Pluck();
        promise9PluckOfAFret();
        promise10Damp();
        promise11StringInfo();
        promise12ModeInfo();
        promise12Nodes();
        promises13And14Node();
        promises13And14Agree();
        D.end();
    }

    private static void promise6Tune() {
        FrettedStrings x = new FrettedStrings();
        for (int string : NO_STRING) {
            D.due("6: tune(" + string + ", 5000)", x.tune(string, 5000), -1);
        }
        D.due("6: tune(0, 999)", x.tune(0, 999), -1);
        D.due("6: tune(0, 100000001)", x.tune(0, 100000001), -1);
        D.due("6: no change", x.count(12), 0);
        x.pluck(3, 1260, 100);
        int sum = x.stringInfo(3, 7);
        D.due("6: tune(3, 1000)", x.tune(3, 1000), 2375000);
        D.due("6: tune(3, 100000000)", x.tune(3, 100000000), 1000);
        D.due("6: the tension", x.stringInfo(3, 0), 100000000);
        D.due("6: the amplitudes stay", x.stringInfo(3, 7), sum);
        D.due("6: the pitch", x.modeInfo(3, 12, 1), 476190);
        D.due("6: others stay", x.stringInfo(2, 0), 1780000);
        D.due("6: three changes", x.count(12), 3);
    }

    private static void promise7Press() {
        FrettedStrings x = new FrettedStrings();
        for (int string : NO_STRING) {
            D.due("7: press(" + string + ", 0)", x.press(string, 0), -1);
        }
        D.due("7: press(0, 1) without frets", x.press(0, 1), -1);
        D.due("7: press(0, -1)", x.press(0, -1), -1);
        D.due("7: no change", x.count(12), 0);
        D.due("7: press(0, 0)", x.press(0, 0), 2520);
        D.due("7: it is a change", x.count(12), 1);
        x.fret(500, 1000);
        x.fret(1000, 1000);
        x.fret(1500, 2000);
        D.due("7: press(0, 4)", x.press(0, 4), -1);
        x.pluck(0, 1260, 100);
        int open = x.stringInfo(0, 7);
        D.due("7: press(0, 0)", x.press(0, 0), 2520);
        D.due("7: the amplitudes stay", x.stringInfo(0, 7), open);
        D.due("7: press(0, 1)", x.press(0, 1), 1020);
        D.due("7: it rests", x.stringInfo(0, 7), 0);
        D.due("7: it buzzes", x.stringInfo(0, 3), 1);
        x.pluck(0, 2000, 100);
        int sum = x.stringInfo(0, 7);
        D.due("7: press(0, 2)", x.press(0, 2), 1020);
        D.due("7: it sounds from the same fret", x.stringInfo(0, 2), 3);
        D.due("7: so the amplitudes stay", x.stringInfo(0, 7), sum);
        D.due("7: press(0, 3)", x.press(0, 3), 1020);
        D.due("7: it does not buzz", x.stringInfo(0, 3), 0);
        D.due("7: the amplitudes stay", x.stringInfo(0, 7), sum);
        D.due("7: press(0, 0)", x.press(0, 0), 2520);
        D.due("7: it rests", x.stringInfo(0, 7), 0);
        D.due("7: an open one never buzzes", x.stringInfo(0, 3), 0);
    }

    private static void promise8Touch() {
        FrettedStrings x = new FrettedStrings();
        for (int string : NO_STRING) {
            D.due("8: touch(" + string + ", 5)", x.touch(string, 5), -1);
        }
        D.due("8: touch(0, -1)", x.touch(0, -1), -1);
        D.due("8: touch(0, 2520)", x.touch(0, 2520), -1);
        D.due("8: no change", x.count(12), 0);
        D.due("8: touch(0, 2519)", x.touch(0, 2519), 0);
        D.due("8: touch(0, 1)", x.touch(0, 1), 2519);
        D.due("8: the finger", x.stringInfo(0, 5), 1);
        D.due("8: others have none", x.stringInfo(1, 5), 0);
        D.due("8: touch(0, 0)", x.touch(0, 0), 1);
        D.due("8: touch(0, 0)", x.touch(0, 0), 0);
        D.due("8: four changes", x.count(12), 4);
    }

    private static void promise9Pluck() {
        FrettedStrings x = new FrettedStrings();
        for (int string : NO_STRING) {
            D.due("9: pluck(" + string + ", 5, 5)", x.pluck(string, 5, 5), -1);
        }
        for (int place : NO_PLACE) {
            D.due("9: pluck(0, " + place + ", 5)", x.pluck(0, place, 5), -1);
        }
        D.due("9: pluck(0, 5, 0)", x.pluck(0, 5, 0), -1);
        D.due("9: pluck(0, 5, 1001)", x.pluck(0, 5, 1001), -1);
        D.due("9: no change", x.count(12) + x.count(5), 0);
        D.due("9: pluck(0, 840, 60)", x.pluck(0, 840, 60), 8);
        // 60 * distance * 1000 / (2520 * n) with the distance 840, 0 at the modes 3, 6, 9, 12.
        int[] amplitudes = {20000, 10000, 0, 5000, 4000, 0, 2857, 2500, 0, 2000, 1818, 0};
        for (int mode = 1; mode <= 12; mode++) {
            D.due("9: modeInfo(0, " + mode + ", 0)", x.modeInfo(0, mode, 0), amplitudes[mode - 1]);
        }
        D.due("9: a second one adds to it", x.pluck(0, 840, 60), 8);
        D.due("9: modeInfo(0, 7, 0)", x.modeInfo(0, 7, 0), 5714);
        D.due("9: others rest", x.stringInfo(1, 7), 0);
        D.due("9: pluck(1, 1, 1)", x.pluck(1, 1, 1), 0);
        D.due("9: pluck(1, 2519, 1)", x.pluck(1, 2519, 1), 0);
        for (int times = 0; times < 3; times++) {
            x.pluck(2, 1260, 1000);
        }
        D.due("9: not above 1000000", x.modeInfo(2, 1, 0), 1000000);
        D.due("9: below it", x.modeInfo(2, 3, 0), 499998);
        D.due("9: plucks", x.stringInfo(2, 8), 3);
        D.due("9: plucks in all", x.count(5), 7);
    }

    private static void promise9PluckOfAFret() {
        FrettedStrings x = new FrettedStrings();
        x.fret(1000, 1000);
        x.press(0, 1);
        D.due("9: pluck at the fret", x.pluck(0, 1000, 5), -2);
        D.due("9: pluck ahead of it", x.pluck(0, 1, 5), -2);
        D.due("9: pluck with a wrong force there", x.pluck(0, 1, 0), -1);
        D.due("9: no change", x.count(12) + x.fretInfo(1, 2), 2);
        D.due("9: pluck behind it", x.pluck(0, 1001, 1000), 12);
        // 1000 * 1 * 1000 / 1520
        D.due("9: modeInfo(0, 1, 0)", x.modeInfo(0, 1, 0), 657);
        D.due("9: modeInfo(0, 12, 0)", x.modeInfo(0, 12, 0), 657);
        D.due("9: open at 1000", x.pluck(1, 1000, 5) > 0 ? 1 : 0, 1);
        x.damp(0);
        x.set(4, 658);
        D.due("9: below the hearing", x.pluck(0, 1001, 1000), 0);
        x.damp(0);
        x.set(4, 657);
        D.due("9: at the hearing", x.pluck(0, 1001, 1000), 12);
    }

    private static void promise10Damp() {
        FrettedStrings x = new FrettedStrings();
        for (int string : NO_STRING) {
            D.due("10: damp(" + string + ")", x.damp(string), -1);
        }
        D.due("10: no change", x.count(12), 0);
        x.pluck(0, 1260, 100);
        x.pluck(1, 1260, 100);
        int other = x.stringInfo(1, 7);
        D.due("10: damp(0)", x.damp(0), 6);
        D.due("10: it rests", x.stringInfo(0, 7), 0);
        D.due("10: the other does not", x.stringInfo(1, 7), other);
        D.due("10: damp(0)", x.damp(0), 0);
        D.due("10: four changes", x.count(12), 4);
        D.due("10: plucks stay", x.stringInfo(0, 8), 1);
        x.pluck(0, 2519, 1000);
        D.due("10: damp(0) of all modes", x.damp(0), 12);
        for (int mode = 1; mode <= 12; mode++) {
            D.due("10: modeInfo(0, " + mode + ", 0)", x.modeInfo(0, mode, 0), 0);
        }
    }

    private static void promise11StringInfo() {
        FrettedStrings x = new FrettedStrings();
        x.fret(1000, 1000);
        x.fret(1500, 1900);
        x.press(2, 1);
        x.tune(2, 4444);
        x.touch(2, 77);
        // 1020 long, plucked in the middle: the odd modes, 500000 / n.
        D.due("11: pluck(2, 2010, 1000)", x.pluck(2, 2010, 1000), 6);
        int[] infos = {4444, 1, 2, 1, 1020, 77, 1365, 500000 + 166666 + 100000 + 71428 + 55555 + 45454, 1};
        for (int what = 0; what < infos.length; what++) {
            D.due("11: stringInfo(2, " + what + ")", x.stringInfo(2, what), infos[what]);
        }
        D.due("11: stringInfo(2, -1)", x.stringInfo(2, -1), -1);
        D.due("11: stringInfo(2, 9)", x.stringInfo(2, 9), -1);
        for (int string : NO_STRING) {
            D.due("11: stringInfo(" + string + ", 0)", x.stringInfo(string, 0), -1);
        }
        x.pluck(1, 2519, 1000);
        // 396 each
        D.due("11: the sum of all twelve", x.stringInfo(1, 7), 4752);
        D.due("11: all twelve are heard", x.stringInfo(1, 6), 4095);
        x.set(4, 71429);
        D.due("11: what is heard", x.stringInfo(2, 6), 21);
        x.set(4, 0);
        D.due("11: rest is never heard", x.stringInfo(2, 6), 1365);
    }

    private static void promise12ModeInfo() {
        FrettedStrings x = new FrettedStrings();
        D.due("12: modeInfo(0, 1, 1)", x.modeInfo(0, 1, 1), 396);
        D.due("12: modeInfo(0, 2, 1)", x.modeInfo(0, 2, 1), 793);
        D.due("12: modeInfo(3, 12, 1)", x.modeInfo(3, 12, 1), 11309);
        x.tune(1, 100000000);
        x.fret(2400, 1500);
        x.press(1, 1);
        D.due("12: the highest pitch", x.modeInfo(1, 12, 1), 10000000);
        for (int string : NO_STRING) {
            D.due("12: modeInfo(" + string + ", 1, 0)", x.modeInfo(string, 1, 0), -1);
        }
        for (int mode : NO_MODE) {
            D.due("12: modeInfo(0, " + mode + ", 0)", x.modeInfo(0, mode, 0), -1);
        }
        D.due("12: modeInfo(0, 1, -1)", x.modeInfo(0, 1, -1), -1);
        D.due("12: modeInfo(0, 1, 3)", x.modeInfo(0, 1, 3), -1);
        x.pluck(0, 1260, 5);
        D.due("12: modeInfo(0, 1, 0)", x.modeInfo(0, 1, 0), 2500);
    }

    private static void promise12Nodes() {
        FrettedStrings x = new FrettedStrings();
        int[] positions = {0, 1, 20, 840, 1020, 2400};
        for (int position : positions) {
            if (position > 0) {
                x.fret(position, 0);
            }
            x.press(0, position > 0 ? x.count(0) : 0);
            for (int mode = 1; mode <= 12; mode++) {
                int nodes = 0;
                for (int place = position + 1; place < 2520; place++) {
                    nodes += mode * (place - position) % (2520 - position) == 0 ? 1 : 0;
                }
                D.due("12: nodes of " + mode + " from " + position, x.modeInfo(0, mode, 2), nodes);
            }
        }
    }

    private static void promises13And14Node() {
        FrettedStrings x = new FrettedStrings();
        for (int string : NO_STRING) {
            D.due("13: node(" + string + ", 1, 1)", x.node(string, 1, 1), -1);
            D.due("14: nodeAgain(" + string + ", 1, 1)", x.nodeAgain(string, 1, 1), -1);
        }
        for (int mode : NO_MODE) {
            D.due("13: node(0, " + mode + ", 1)", x.node(0, mode, 1), -1);
            D.due("14: nodeAgain(0, " + mode + ", 1)", x.nodeAgain(0, mode, 1), -1);
        }
        for (int place : NO_PLACE) {
            D.due("13: node(0, 1, " + place + ")", x.node(0, 1, place), -1);
            D.due("14: nodeAgain(0, 1, " + place + ")", x.nodeAgain(0, 1, place), -1);
        }
        x.fret(1020, 1500);
        x.press(1, 1);
        int[] places = {1, 1020, 1021, 1520, 1770, 2020, 2519};
        int[] ofMode3 = {-4, -4, 0, 1, 0, 1, 0};
        int[] ofMode6 = {-4, -4, 0, 1, 1, 1, 0};
        for (int i = 0; i < places.length; i++) {
            D.due("13: node(1, 3, " + places[i] + ")", x.node(1, 3, places[i]), ofMode3[i]);
            D.due("14: nodeAgain(1, 3, " + places[i] + ")", x.nodeAgain(1, 3, places[i]), ofMode3[i]);
            D.due("13: node(1, 6, " + places[i] + ")", x.node(1, 6, places[i]), ofMode6[i]);
            D.due("14: nodeAgain(1, 6, " + places[i] + ")", x.nodeAgain(1, 6, places[i]), ofMode6[i]);
        }
        D.due("13: open", x.node(0, 2, 1260), 1);
        D.due("14: open", x.nodeAgain(0, 2, 1260), 1);
        D.due("13: a wrong mode ahead of the fret", x.node(1, 13, 1), -1);
        D.due("14: a wrong mode ahead of the fret", x.nodeAgain(1, 13, 1), -1);
        D.due("13: no change", x.count(12), 2);
    }

    private static void promises13And14Agree() {
        int[] positions = {0, 1, 20, 420, 840, 1025, 2399, 2400};
        for (int position : positions) {
            FrettedStrings x = new FrettedStrings();
            x.press(3, position > 0 ? x.fret(position, 900) : 0);
            for (int mode = 1; mode <= 12; mode++) {
                for (int place = position + 1; place < 2520; place++) {
                    int due = mode * (place - position) % (2520 - position) == 0 ? 1 : 0;
                    D.due("13: node of " + mode + " at " + place, x.node(3, mode, place), due);
                    D.due("14: nodeAgain of " + mode + " at " + place, x.nodeAgain(3, mode, place), due);
                }
            }
        }
    }
}
