/** Promises 23 to 26: type, clearText, fault, play. */
public final class TextsTest {
    private static final Due D = new Due();

    public static void main(String[] args) {
        promise23Type();
        promise24ClearText();
        promise24OfAFullText();
        promise25Form();
        promise25EachCharacter();
        promise25EachEnd();
        promise25EachCut();
        promise25Numbers();
        promise25Reasons();
        promise25Positions();
        promise25Ticks();
        promise25ReasonsInTheirOrder();
        promise26Play();
        promise26TheMostNotes();
        promise26AtTheLastFret();
        promise26PlayIsOneChange();
        promise26PlayIsAsTheCalls();
        promise26PlayOfFaults();
        D.end();
    }

    // "character: its code, 32 to 126", "LIMIT_REACHED if the text has 80 characters"

    private static void promise23Type() {
        Instrument x = new Instrument();
        D.due("23: type(31)", x.type(31), -1);
        D.due("23: type(127)", x.type(127), -1);
        D.due("23: type(-1)", x.type(-1), -1);
        D.due("23: type(65536 + 48)", x.type(65536 + 48), -1);
        D.due("23: no length", x.count(13), 0);
        D.due("23: type(32)", x.type(32), 1);
        D.due("23: type(126)", x.type(126), 2);
        for (int length = 3; length <= 80; length++) {
            D.due("23: type(48)", x.type(48), length);
        }
        D.due("23: type(48), the 81st", x.type(48), -3);
        D.due("23: type(31), the 81st", x.type(31), -1);
        D.due("23: the length", x.count(13), 80);
        D.due("23: no change", x.count(12), 0);
        D.due("23: no undo", x.undo(), -2);
    }

    // "Empties the text.", "Returns the length it had."

    private static void promise24ClearText() {
        Instrument x = new Instrument();
        D.due("24: clearText()", x.clearText(), 0);
        D.type(x, "0:0!9;9");
        D.due("24: clearText()", x.clearText(), 7);
        D.due("24: the length", x.count(13), 0);
        D.due("24: no fault", x.fault(0), -4);
        D.due("24: nothing to play", x.play(), 0);
        D.type(x, "0:0!9;");
        D.due("24: what was behind it is gone", x.fault(0), -4);
        D.due("24: one note", x.play(), 1);
        D.due("24: changes are the plays", x.count(12), 2);
    }

    private static void promise24OfAFullText() {
        for (int length : new int[] {1, 79, 80}) {
            Instrument x = new Instrument();
            for (int i = 1; i <= length; i++) {
                D.due("23: type()", x.type(' ' + i), i);
            }
            D.due("23: the length", x.count(13), length);
            D.due("23: one more", x.type('x'), length < 80 ? length + 1 : -3);
            D.due("24: clearText()", x.clearText(), Math.min(80, length + 1));
            D.due("24: the length", x.count(13), 0);
            D.due("24: clearText() again", x.clearText(), 0);
            D.due("23: it begins anew", x.type('0'), 1);
            D.due("25: with a new fault", x.fault(0), 0);
            D.due("23: no changes", x.count(12), 0);
        }
    }

    /** Due is the reason, 0 for none; the position is 0. */
    private static void reason(Instrument x, String text, int due) {
        D.retype(x, text);
        D.due("25: fault(1) of " + text, x.fault(1), due == 0 ? -4 : due);
        D.due("25: fault(0) of " + text, x.fault(0), due == 0 ? -4 : 0);
    }

    // "1 if it is not of this form (zeros may stand ahead; a missing ";" counts)"; "NOT_FOUND if the text has no
    // fault (also if it is empty)"

    private static void promise25Form() {
        Instrument x = new Instrument();
        x.fret(1000, 1500);
        D.due("25: fault(-1)", x.fault(-1), -1);
        D.due("25: fault(2)", x.fault(2), -1);
        D.due("25: fault(0) of the empty text", x.fault(0), -4);
        D.due("25: fault(1) of the empty text", x.fault(1), -4);
        String[] fine = {"0:0!1;", "3:1!1000;", "1:01!0001;", "2:00!0999+500;", "0:0!10+001;", "0:0!10+1;"};
        for (String text : fine) {
            reason(x, text, 0);
        }
        String[] wrong = {";", "0", "0:", "0:0", "0:0!", "0:0!1", "0:0!1+", "0:0!1+1", "0:0!1+;", "0:0!;", "0:!1;",
            ":0!1;", "4:0!1;", "9:0!1;", "00:0!1;", "0:000!1;", "0:001!1;", "0:0!00001;", "0:0!10000;", "0:0!1+0001;",
            "0:0!1+1000;", " 0:0!1;", "0 :0!1;", "0:0!1 ;", "0:0!1:", "0;0!1;", "0:0:1;", "0:0!1-1;", "0:-1!1;",
            "0:0!-1;", "0:0!1++1;", "0:0!1+1+1;", "0:0!a;", "a:0!1;", "/:0!1;", "0:/!1;", "0::!1;", "0:0!1;;"};
        for (String text : wrong) {
            if (text.endsWith(";;")) {
                D.retype(x, text);
                D.due("25: fault(0) of " + text, x.fault(0), 6);
                D.due("25: fault(1) of " + text, x.fault(1), 1);
            } else {
                reason(x, text, 1);
            }
        }
    }

    private static Instrument withOneFret() {
        Instrument x = new Instrument();
        x.fret(1000, 1500);
        return x;
    }

    // Each character at each place of a note, which takes one text of the form to all those beside it

    private static void promise25EachCharacter() {
        String note = "1:01!0999+050;";
        String digits = "0123456789";
        for (int place = 0; place < note.length(); place++) {
            for (char sign = 32; sign <= 126; sign++) {
                String text = note.substring(0, place) + sign + note.substring(place + 1);
                boolean isDigit = digits.indexOf(sign) >= 0;
                boolean wasDigit = digits.indexOf(note.charAt(place)) >= 0;
                int due = sign == note.charAt(place) ? 0 : 1;
                if (isDigit && wasDigit) {
                    due = place == 0 ? sign <= '3' ? 0 : 1
                        : place == 2 || place == 3 ? Integer.parseInt(text.substring(2, 4)) <= 1 ? 0 : 2
                        : place < 9 ? Integer.parseInt(text.substring(5, 9)) <= 1000 ? 0 : 3
                        : Math.floorMod(Integer.parseInt(text.substring(10, 13)) - 1, 1000) < 500 ? 0 : 3;
                }
                // A ";" ends a note there, which is looked at by itself below.
                if (sign != ';' || place < 6) {
                    reason(withOneFret(), text, due);
                }
            }
        }
    }

    // "a sequence of notes, each followed by ";""

    private static void promise25EachEnd() {
        String[] texts = {"1:01!0;99+050;", "1:01!09;9+050;", "1:01!099;+050;", "1:01!0999;050;", "1:01!0999+;50;",
            "1:01!0999+0;0;", "1:01!0999+05;;", "1:01!0999+050;", "1:01!0999+050;;", "1:01!0999+050; "};
        int[][] positionsAndReasons = {{0, 3}, {8, 1}, {9, 1}, {10, 1}, {0, 1}, {0, 3}, {13, 1}, {-4, -4}, {14, 1}, {14, 1}};
        for (int i = 0; i < texts.length; i++) {
            Instrument x = withOneFret();
            D.type(x, texts[i]);
            D.due("25: fault(0) of " + texts[i], x.fault(0), positionsAndReasons[i][0]);
            D.due("25: fault(1) of " + texts[i], x.fault(1), positionsAndReasons[i][1]);
        }
    }

    // A text up to each of its places: "a missing ";" counts"

    private static void promise25EachCut() {
        String text = "0:0!1;1:01!0020+300;3:1!1000+1;2:00!7;";
        for (int length = 0; length <= text.length(); length++) {
            Instrument x = withOneFret();
            String cut = text.substring(0, length);
            D.type(x, cut);
            boolean whole = cut.isEmpty() || cut.endsWith(";");
            D.due("25: fault(0) of " + cut, x.fault(0), whole ? -4 : cut.lastIndexOf(';') + 1);
            D.due("25: fault(1) of " + cut, x.fault(1), whole ? -4 : 1);
            D.due("26: play() of " + cut, x.play(), whole ? cut.length() - cut.replace(";", "").length() : -2);
            D.due("26: its plucks", x.count(5), whole ? cut.length() - cut.replace(";", "").length() : 0);
        }
    }

    // "the string (a digit 0 to 3)", "2 if there is no such fret, 3 if the force or the ticks are out of their range"

    private static void promise25Numbers() {
        int[] forces = {0, 1, 2, 9, 10, 99, 100, 999, 1000, 1001, 1002, 9999};
        for (int force : forces) {
            reason(withOneFret(), "0:0!" + force + ";", force >= 1 && force <= 1000 ? 0 : 3);
        }
        int[] ticks = {0, 1, 2, 9, 10, 99, 100, 499, 500, 501, 502, 999};
        for (int number : ticks) {
            reason(withOneFret(), "0:0!1+" + number + ";", number >= 1 && number <= 500 ? 0 : 3);
        }
        for (int frets = 0; frets <= 12; frets++) {
            Instrument x = new Instrument();
            for (int fret = 1; fret <= frets; fret++) {
                x.fret(fret, 0);
            }
            reason(x, "0:" + frets + "!1;", 0);
            reason(x, "0:" + (frets + 1) + "!1;", 2);
            reason(x, "0:99!1;", 2);
        }
        for (int string = 0; string <= 9; string++) {
            reason(withOneFret(), string + ":0!1;", string <= 3 ? 0 : 1);
        }
    }

    // The reasons, each just beside its edge

    private static void promise25Reasons() {
        Instrument x = new Instrument();
        reason(x, "0:1!1;", 2);
        x.fret(1000, 1500);
        reason(x, "0:1!1;", 0);
        reason(x, "0:2!1;", 2);
        reason(x, "0:99!0+0;", 2);
        reason(x, "0:2!1+501;", 2);
        reason(x, "0:2!1", 1);
        reason(x, "0:1!0;", 3);
        reason(x, "0:1!0000;", 3);
        reason(x, "0:1!1001;", 3);
        reason(x, "0:1!9999;", 3);
        reason(x, "0:1!1+0;", 3);
        reason(x, "0:1!1+000;", 3);
        reason(x, "0:1!1+501;", 3);
        reason(x, "0:1!1+999;", 3);
        reason(x, "0:1!0", 1);
        for (int fret = 2; fret <= 12; fret++) {
            x.fret(1000 + fret, 0);
        }
        reason(x, "0:12!1;", 0);
        reason(x, "0:13!1;", 2);
        x.undo();
        reason(x, "0:12!1;", 2);
    }

    // "The fault of the text is the position, from 0, of the first character of the first note that is not possible"

    private static void promise25Positions() {
        Instrument x = new Instrument();
        D.retype(x, "0:0!1;1:0!2+3;2:1!1;x");
        D.due("25: the second of two faults counts not", x.fault(0), 14);
        D.due("25: its reason", x.fault(1), 2);
        x.fret(7, 7);
        D.due("25: then that behind it", x.fault(0), 20);
        D.due("25: its reason", x.fault(1), 1);
        D.retype(x, "0:0!1;0:0!1");
        D.due("25: a missing sign at the end", x.fault(0), 6);
        D.due("25: its reason", x.fault(1), 1);
        D.retype(x, "0:0!1;0:0!0;x");
        D.due("25: the first fault", x.fault(0), 6);
        D.due("25: its reason", x.fault(1), 3);
        D.retype(x, "0:0!0;0:0!1;");
        D.due("25: the first note", x.fault(0), 0);
        D.retype(x, "0:0!1000+500;0:0!1000+500;0:0!1000+500;0:0!1000+500;0:0!1000+500;0:0!1000+500;00");
        D.due("25: of 80 characters", x.fault(0), 78);
    }

    // "4 if there would be more than 100000 ticks in all (those ahead in the text counted)"

    private static void promise25Ticks() {
        Instrument x = new Instrument();
        for (int times = 0; times < 199; times++) {
            x.run(500);
        }
        D.retype(x, "0:0!1+500;");
        D.due("25: up to 100000", x.fault(0), -4);
        x.run(1);
        D.due("25: one more", x.fault(0), 0);
        D.due("25: its reason", x.fault(1), 4);
        D.retype(x, "0:0!1+501;");
        D.due("25: out of the range ahead of it", x.fault(1), 3);
        D.retype(x, "0:1!1+500;");
        D.due("25: the fret ahead of it", x.fault(1), 2);
        D.retype(x, "0:0!1+499;0:0!1;");
        D.due("25: none go by behind the second one", x.fault(0), -4);
        D.retype(x, "0:0!1+400;0:0!1;0:0!1+100;0:0!1;");
        D.due("25: those ahead in the text", x.fault(0), 16);
        D.due("25: its reason", x.fault(1), 4);
        D.due("25: play()", x.play(), -2);
        D.retype(x, "0:0!1+400;0:0!1;0:0!1+99;0:0!1;");
        D.due("25: play()", x.play(), 4);
        D.due("25: the ticks", x.count(1), 100000);
        D.due("25: then no more", x.fault(0), 0);
        D.retype(x, "0:0!1;");
        D.due("25: but without ticks", x.fault(0), -4);
        D.due("25: play()", x.play(), 1);
    }

    private static Instrument withoutTicksLeft() {
        Instrument x = withOneFret();
        for (int times = 0; times < 200; times++) {
            x.run(500);
        }
        return x;
    }

    // "the first one of these that applies"

    private static void promise25ReasonsInTheirOrder() {
        String[] texts = {"0:2!0+1", "0:2!0+501;", "0:2!1+1;", "0:1!0+1;", "0:1!1+501;", "0:1!1+0;", "0:1!1+1;", "0:1!1;"};
        int[] due = {1, 2, 2, 3, 3, 3, 4, 0};
        for (int i = 0; i < texts.length; i++) {
            reason(withoutTicksLeft(), texts[i], due[i]);
            Instrument x = withoutTicksLeft();
            D.type(x, "3:0!5;" + texts[i]);
            D.due("25: the second note " + texts[i], x.fault(0), due[i] == 0 ? -4 : 6);
            D.due("25: its reason", x.fault(1), due[i] == 0 ? -4 : due[i]);
            D.due("26: play()", x.play(), due[i] == 0 ? 2 : -2);
            D.due("26: plucks", x.count(5), due[i] == 0 ? 2 : 0);
            D.due("26: states", x.count(12), 4);
            D.due("26: ticks", x.count(1), 100000);
        }
    }

    // "There is a text of at most 80 characters", with as many notes as it holds, and with none

    private static void promise26TheMostNotes() {
        Instrument x = new Instrument();
        D.type(x, "0:0!1;1:0!2;2:0!3;3:0!4;0:0!5;1:0!6;2:0!7;3:0!8;0:0!9;1:0!1;2:0!2;3:0!3;0:0!4+1;");
        D.due("26: the length", x.count(13), 80);
        D.due("26: 13 notes", x.play(), 13);
        D.due("26: plucks", x.count(5), 13);
        D.due("26: ticks", x.count(1), 1);
        D.due("26: of the string 0", x.stringInfo(0, 8), 4);
        D.due("26: of the string 3", x.stringInfo(3, 8), 3);
        // 23 + 119 + 214 + 95 - 4 - 1
        D.due("26: the sum of them", x.modeInfo(0, 1, 0), 446);
        D.due("26: the text stays", x.count(13), 80);
        D.due("26: one change", x.count(12), 1);
        D.due("26: undo()", x.undo(), 0);
        D.due("26: undone", x.count(5) + x.count(1) + x.count(2) + x.count(4), 0);
        x.clearText();
        D.due("26: of no note", x.play(), 0);
        D.due("26: is a change", x.count(12), 1);
        D.due("26: that changes nothing else", x.count(5) + x.count(1), 0);
    }

    // "to pluck it with the force at the position 2460"

    private static void promise26AtTheLastFret() {
        Instrument x = new Instrument();
        for (int fret = 1; fret <= 12; fret++) {
            x.fret(200 * fret, 1500);
        }
        D.type(x, "2:12!1000;");
        D.due("26: play()", x.play(), 1);
        D.due("26: pressed", x.stringInfo(2, 1), 12);
        // At 2460 the string of 120 is plucked in its middle.
        for (int mode = 1; mode <= 12; mode++) {
            D.due("26: mode " + mode, x.modeInfo(2, mode, 0), mode % 2 == 0 ? 0 : 500000 / mode);
        }
        D.due("26: a micrometre is lost", x.fretInfo(12, 1), 1499);
        D.due("26: no ticks", x.count(1), 0);
        D.due("26: the note", x.played(0, 1), 12);
    }

    // "Plays the notes of the text, which stays.", "Returns how many there are in it"

    private static void promise26Play() {
        Instrument x = new Instrument();
        D.due("26: play() of the empty text", x.play(), 0);
        D.due("26: it is a change", x.count(12), 1);
        x.fret(1260, 1500);
        D.retype(x, "0:1!500+2;3:0!100;0:1!1;0:0!0007+001;");
        D.due("26: play()", x.play(), 4);
        D.due("26: the text stays", x.count(13), 37);
        D.due("26: ticks", x.count(1), 3);
        D.due("26: plucks", x.count(5), 4);
        D.due("26: notes", x.count(4), 3);
        D.due("26: the first one", x.played(0, 0) * 100 + x.played(0, 1) * 10 + x.played(0, 2), 12);
        D.due("26: the second one", x.played(1, 0) * 100 + x.played(1, 1) * 10 + x.played(1, 2), 301);
        D.due("26: the third one", x.played(2, 0) * 100 + x.played(2, 1) * 10 + x.played(2, 2), 1);
        D.due("26: the wear", x.fretInfo(1, 2), 501);
        D.due("26: the string is open then", x.stringInfo(0, 1), 0);
        // 7 * 60 * 1000 / 2520 = 166; 166 - 1 - 1
        D.due("26: the amplitude", x.modeInfo(0, 1, 0), 164);
        // 100 * 60 * 1000 / 2520 = 2380; 2380 - 23 - 1
        D.due("26: the other one", x.modeInfo(3, 1, 0), 2356);
        D.due("26: play() again", x.play(), 4);
        D.due("26: plucks", x.count(5), 8);
    }

    // "They are one change."

    private static void promise26PlayIsOneChange() {
        Instrument x = new Instrument();
        x.tune(0, 2000);
        D.type(x, "0:0!500+2;1:0!500+2;2:0!500+2;3:0!500+2;");
        D.due("26: play()", x.play(), 4);
        D.due("26: one change", x.count(12), 2);
        D.due("26: undo()", x.undo(), 1);
        D.due("26: plucks", x.count(5), 0);
        D.due("26: ticks", x.count(1), 0);
        D.due("26: heard", x.count(2), 0);
        D.due("26: the text", x.count(13), 40);
        D.due("26: the tension", x.stringInfo(0, 0), 2000);
    }

    // "To play them means for each: to press the string at the fret, to pluck it .., and to let the ticks go by."

    private static void promise26PlayIsAsTheCalls() {
        Instrument x = new Instrument();
        Instrument y = new Instrument();
        for (Instrument one : new Instrument[] {x, y}) {
            one.fret(1000, 1000);
            one.fret(1380, 1126);
            one.set(3, 300);
            one.touch(1, 1680);
        }
        D.type(x, "1:1!900;0:2!700+13;1:1!900+500;1:0!50;0:2!1+1;");
        D.due("26: play()", x.play(), 5);
        int[][] notes = {{1, 1, 900, 0}, {0, 2, 700, 13}, {1, 1, 900, 500}, {1, 0, 50, 0}, {0, 2, 1, 1}};
        for (int[] note : notes) {
            y.press(note[0], note[1]);
            y.pluck(note[0], 2460, note[2]);
            if (note[3] > 0) {
                y.run(note[3]);
            }
        }
        for (int what = 0; what < 12; what++) {
            D.due("26: count(" + what + ")", x.count(what), y.count(what));
        }
        for (int string = 0; string < 4; string++) {
            for (int what = 0; what < 9; what++) {
                D.due("26: stringInfo(" + string + ", " + what + ")", x.stringInfo(string, what),
                    y.stringInfo(string, what));
            }
            for (int mode = 1; mode <= 12; mode++) {
                D.due("26: modeInfo(" + string + ", " + mode + ", 0)", x.modeInfo(string, mode, 0),
                    y.modeInfo(string, mode, 0));
            }
        }
        for (int fret = 1; fret <= 2; fret++) {
            for (int what = 0; what < 6; what++) {
                D.due("26: fretInfo(" + fret + ", " + what + ")", x.fretInfo(fret, what), y.fretInfo(fret, what));
            }
        }
    }

    // "NOT_POSSIBLE if it has a fault"

    private static void promise26PlayOfFaults() {
        Instrument x = new Instrument();
        D.type(x, "0:0!500;0:0!500+9;0:1!5;");
        D.due("26: play() with a fault at the end", x.play(), -2);
        D.due("26: nothing was played", x.count(5) + x.count(1) + x.count(2) + x.count(12), 0);
        x.fret(5, 5);
        D.due("26: play()", x.play(), 3);
    }
}
