/** Promises 23 to 26: type, clearText, fault, play. */
public final class TextsTest {
    private static final Due D = new Due();

    public static void main(String[] args) {
        promise23Type();
        promise24ClearText();
        promise25Form();
        promise25Reasons();
        promise25Positions();
        promise25Ticks();
        promise26Play();
        promise26PlayIsOneChange();
        promise26PlayIsAsTheCalls();
        promise26PlayOfFaults();
        D.end();
    }

    private static void promise23Type() {
        FrettedStrings x = new FrettedStrings();
        D.due("23: type(31)", x.type(31), -1);
        D.due("23: type(127)", x.type(127), -1);
        D.due("23: type(-1)", x.type(-1), -1);
        D.due("23: type(65536 + 48)", x.type(65536 + 48), -1);
        D.due("23: no length", x.count(13), 0);
        D.due("23: type(32)", x.type(32), 1);
        D.due("23: type(126)", x.type(126), 2);
        for (int length = 3; length <= 80; length++) {
            D.due("23: type(48)", x.type(48), length);
        }
        D.due("23: type(48), the 81st", x.type(48), -3);
        D.due("23: type(31), the 81st", x.type(31), -1);
        D.due("23: the length", x.count(13), 80);
        D.due("23: no change", x.count(12), 0);
        D.due("23: no undo", x.undo(), -2);
    }

    private static void promise24ClearText() {
        FrettedStrings x = new FrettedStrings();
        D.due("24: clearText()", x.clearText(), 0);
        D.type(x, "0:0!9;9");
        D.due("24: clearText()", x.clearText(), 7);
        D.due("24: the length", x.count(13), 0);
        D.due("24: no fault", x.fault(0), -4);
        D.due("24: nothing to play", x.play(), 0);
        D.type(x, "0:0!9;");
        D.due("24: what was behind it is gone", x.fault(0), -4);
        D.due("24: one note", x.play(), 1);
        D.due("24: changes are the plays", x.count(12), 2);
    }

    /** Due is the reason, 0 for none; the position is 0. */
    private static void reason(FrettedStrings x, String text, int due) {
        D.retype(x, text);
        D.due("25: fault(1) of " + text, x.fault(1), due == 0 ? -4 : due);
        D.due("25: fault(0) of " + text, x.fault(0), due == 0 ? -4 : 0);
    }

    private static void promise25Form() {
        FrettedStrings x = new FrettedStrings();
        x.fret(1000, 1500);
        D.due("25: fault(-1)", x.fault(-1), -1);
        D.due("25: fault(2)", x.fault(2), -1);
        D.due("25: fault(0) of the empty text", x.fault(0), -4);
        D.due("25: fault(1) of the empty text", x.fault(1), -4);
        String[] fine = {"0:0!1;", "3:1!1000;", "1:01!0001;", "2:00!0999+500;", "0:0!10+001;", "0:0!10+1;"};
        for (String text : fine) {
            reason(x, text, 0);
        }
        String[] wrong = {";", "0", "0:", "0:0", "0:0!", "0:0!1", "0:0!1+", "0:0!1+1", "0:0!1+;", "0:0!;", "0:!1;",
            ":0!1;", "4:0!1;", "9:0!1;", "00:0!1;", "0:000!1;", "0:001!1;", "0:0!00001;", "0:0!10000;", "0:0!1+0001;",
            "0:0!1+1000;", " 0:0!1;", "0 :0!1;", "0:0!1 ;", "0:0!1:", "0;0!1;", "0:0:1;", "0:0!1-1;", "0:-1!1;",
            "0:0!-1;", "0:0!1++1;", "0:0!1+1+1;", "0:0!a;", "a:0!1;", "/:0!1;", "0:/!1;", "0::!1;", "0:0!1;;"};
        for (String text : wrong) {
            if (text.endsWith(";;")) {
                D.retype(x, text);
                D.due("25: fault(0) of " + text, x.fault(0), 6);
                D.due("25: fault(1) of " + text, x.fault(1), 1);
            } else {
                reason(x, text, 1);
            }
        }
    }

    private static void promise25Reasons() {
        FrettedStrings x = new FrettedStrings();
        reason(x, "0:1!1;", 2);
        x.fret(1000, 1500);
        reason(x, "0:1!1;", 0);
        reason(x, "0:2!1;", 2);
        reason(x, "0:99!0+0;", 2);
        reason(x, "0:2!1+501;", 2);
        reason(x, "0:2!1", 1);
        reason(x, "0:1!0;", 3);
        reason(x, "0:1!0000;", 3);
        reason(x, "0:1!1001;", 3);
        reason(x, "0:1!9999;", 3);
        reason(x, "0:1!1+0;", 3);
        reason(x, "0:1!1+000;", 3);
        reason(x, "0:1!1+501;", 3);
        reason(x, "0:1!1+999;", 3);
        reason(x, "0:1!0", 1);
        for (int fret = 2; fret <= 12; fret++) {
            x.fret(1000 + fret, 0);
        }
        reason(x, "0:12!1;", 0);
        reason(x, "0:13!1;", 2);
        x.undo();
        reason(x, "0:12!1;", 2);
    }

    private static void promise25Positions() {
        FrettedStrings x = new FrettedStrings();
        D.retype(x, "0:0!1;1:0!2+3;2:1!1;x");
        D.due("25: the second of two faults counts not", x.fault(0), 14);
        D.due("25: its reason", x.fault(1), 2);
        x.fret(7, 7);
        D.due("25: then that behind it", x.fault(0), 20);
        D.due("25: its reason", x.fault(1), 1);
        D.retype(x, "0:0!1;0:0!1");
        D.due("25: a missing sign at the end", x.fault(0), 6);
        D.due("25: its reason", x.fault(1), 1);
        D.retype(x, "0:0!1;0:0!0;x");
        D.due("25: the first fault", x.fault(0), 6);
        D.due("25: its reason", x.fault(1), 3);
        D.retype(x, "0:0!0;0:0!1;");
        D.due("25: the first note", x.fault(0), 0);
        D.retype(x, "0:0!1000+500;0:0!1000+500;0:0!1000+500;0:0!1000+500;0:0!1000+500;0:0!1000+500;00");
        D.due("25: of 80 characters", x.fault(0), 78);
    }

    private static void promise25Ticks() {
        FrettedStrings x = new FrettedStrings();
        for (int times = 0; times < 199; times++) {
            x.run(500);
        }
        D.retype(x, "0:0!1+500;");
        D.due("25: up to 100000", x.fault(0), -4);
        x.run(1);
        D.due("25: one more", x.fault(0), 0);
        D.due("25: its reason", x.fault(1), 4);
        D.retype(x, "0:0!1+501;");
        D.due("25: out of the range ahead of it", x.fault(1), 3);
        D.retype(x, "0:1!1+500;");
        D.due("25: the fret ahead of it", x.fault(1), 2);
        D.retype(x, "0:0!1+499;0:0!1;");
        D.due("25: none go by behind the second one", x.fault(0), -4);
        D.retype(x, "0:0!1+400;0:0!1;0:0!1+100;0:0!1;");
        D.due("25: those ahead in the text", x.fault(0), 16);
        D.due("25: its reason", x.fault(1), 4);
        D.due("25: play()", x.play(), -2);
        D.retype(x, "0:0!1+400;0:0!1;0:0!1+99;0:0!1;");
        D.due("25: play()", x.play(), 4);
        D.due("25: the ticks", x.count(1), 100000);
        D.due("25: then no more", x.fault(0), 0);
        D.retype(x, "0:0!1;");
        D.due("25: but without ticks", x.fault(0), -4);
        D.due("25: play()", x.play(), 1);
    }

    private static void promise26Play() {
        FrettedStrings x = new FrettedStrings();
        D.due("26: play() of the empty text", x.play(), 0);
        D.due("26: it is a change", x.count(12), 1);
        x.fret(1260, 1500);
        D.retype(x, "0:1!500+2;3:0!100;0:1!1;0:0!0007+001;");
        D.due("26: play()", x.play(), 4);
        D.due("26: the text stays", x.count(13), 37);
        D.due("26: ticks", x.count(1), 3);
        D.due("26: plucks", x.count(5), 4);
        D.due("26: notes", x.count(4), 3);
        D.due("26: the first one", x.played(0, 0) * 100 + x.played(0, 1) * 10 + x.played(0, 2), 12);
        D.due("26: the second one", x.played(1, 0) * 100 + x.played(1, 1) * 10 + x.played(1, 2), 301);
        D.due("26: the third one", x.played(2, 0) * 100 + x.played(2, 1) * 10 + x.played(2, 2), 1);
        D.due("26: the wear", x.fretInfo(1, 2), 501);
        D.due("26: the string is open then", x.stringInfo(0, 1), 0);
        // 7 * 60 * 1000 / 2520 = 166; 166 - 1 - 1
        D.due("26: the amplitude", x.modeInfo(0, 1, 0), 164);
        // 100 * 60 * 1000 / 2520 = 2380; 2380 - 23 - 1
        D.due("26: the other one", x.modeInfo(3, 1, 0), 2356);
        D.due("26: play() again", x.play(), 4);
        D.due("26: plucks", x.count(5), 8);
    }

    private static void promise26PlayIsOneChange() {
        FrettedStrings x = new FrettedStrings();
        x.tune(0, 2000);
        D.type(x, "0:0!500+2;1:0!500+2;2:0!500+2;3:0!500+2;");
        D.due("26: play()", x.play(), 4);
        D.due("26: one change", x.count(12), 2);
        D.due("26: undo()", x.undo(), 1);
        D.due("26: plucks", x.count(5), 0);
        D.due("26: ticks", x.count(1), 0);
        D.due("26: heard", x.count(2), 0);
        D.due("26: the text", x.count(13), 40);
        D.due("26: the tension", x.stringInfo(0, 0), 2000);
    }

    private static void promise26PlayIsAsTheCalls() {
        FrettedStrings x = new FrettedStrings();
        FrettedStrings y = new FrettedStrings();
        for (FrettedStrings one : new FrettedStrings[] {x, y}) {
            one.fret(1000, 1000);
            one.fret(1380, 1126);
            one.set(3, 300);
            one.touch(1, 1680);
        }
        D.type(x, "1:1!900;0:2!700+13;1:1!900+500;1:0!50;0:2!1+1;");
        D.due("26: play()", x.play(), 5);
        int[][] notes = {{1, 1, 900, 0}, {0, 2, 700, 13}, {1, 1, 900, 500}, {1, 0, 50, 0}, {0, 2, 1, 1}};
        for (int[] note : notes) {
            y.press(note[0], note[1]);
            y.pluck(note[0], 2460, note[2]);
            if (note[3] > 0) {
                y.run(note[3]);
            }
        }
        for (int what = 0; what < 12; what++) {
            D.due("26: count(" + what + ")", x.count(what), y.count(what));
        }
        for (int string = 0; string < 4; string++) {
            for (int what = 0; what < 9; what++) {
                D.due("26: stringInfo(" + string + ", " + what + ")", x.stringInfo(string, what),
                    y.stringInfo(string, what));
            }
            for (int mode = 1; mode <= 12; mode++) {
                D.due("26: modeInfo(" + string + ", " + mode + ", 0)", x.modeInfo(string, mode, 0),
                    y.modeInfo(string, mode, 0));
            }
        }
        for (int fret = 1; fret <= 2; fret++) {
            for (int what = 0; what < 6; what++) {
                D.due("26: fretInfo(" + fret + ", " + what + ")", x.fretInfo(fret, what), y.fretInfo(fret, what));
            }
        }
    }

    private static void promise26PlayOfFaults() {
        FrettedStrings x = new FrettedStrings();
        D.type(x, "0:0!500;0:0!500+9;0:1!5;");
        D.due("26: play() with a fault at the end", x.play(), -2);
        D.due("26: nothing was played", x.count(5) + x.count(1) + x.count(2) + x.count(12), 0);
        x.fret(5, 5);
        D.due("26: play()", x.play(), 3);
    }
}
