import java.util.ArrayList;
import java.util.List;

/**
 * "Changes and errors", for every call: what is refused and with which error, that a refused call and one that only
 * tells change nothing, and that a change records everything before it but the text.
 */
public final class ChangesTest {
    private static final Due D = new Due();
    private static final int MIN = Integer.MIN_VALUE;
    private static final int MAX = Integer.MAX_VALUE;
    private static final int MOST_STATES = 4;

    private static final int[] STRINGS = {0, 3};
    private static final int[] NO_STRINGS = {-1, 4, MIN, MAX};
    private static final int[] MODES = {1, 12};
    private static final int[] NO_MODES = {0, 13, -1, MIN, MAX};
    private static final int[] PLACES = {1, 2519};
    private static final int[] NO_PLACES = {0, 2520, -1, MIN, MAX};
    private static final int[] HEIGHTS = {0, 2000};
    private static final int[] NO_HEIGHTS = {-1, 2001, MIN, MAX};

    /** Calls that bring a new object into a state. */
    private interface Scene {
        void build(Instrument x);
    }

    private interface Call {
        int on(Instrument x);
    }

    private interface Arguments {
        int on(Instrument x, int[] arguments);
    }

    /** A state, with all that is to be seen in it and behind each undo() of it. */
    private static final class Stage {
        final String name;
        final Scene scene;
        final int frets;
        final List<Look> looks;

        Stage(String name, int frets, Scene scene) {
            this.name = name;
            this.frets = frets;
            this.scene = scene;
            this.looks = looksBehind(x -> 0);
        }

        Instrument build() {
            Instrument x = new Instrument();
            scene.build(x);
            return x;
        }

        /** The first look is at the state behind the call, the next ones at those that undo() finds below it. */
        List<Look> looksBehind(Call call) {
            List<Look> looks = new ArrayList<>();
            for (int undos = 0; undos <= MOST_STATES; undos++) {
                Instrument x = build();
                call.on(x);
                for (int i = 0; i < undos; i++) {
                    x.undo();
                }
                looks.add(new Look(x));
            }
            return looks;
        }

        int[] noFrets(boolean openIsOne) {
            return openIsOne ? new int[] {-1, frets + 1, 13, MIN, MAX} : new int[] {0, -1, frets + 1, 13, MIN, MAX};
        }
    }

    private static final Stage NEW = new Stage("a new object", 0, x -> { });

    private static final Stage RICH = new Stage("frets, wear, fingers and a fault", 3, x -> {
        x.set(3, 1500);
        x.fret(1000, 1000);
        x.fret(1380, 1300);
        x.fret(2000, 1);
        x.press(0, 1);
        x.press(1, 3);
        x.touch(0, 1770);
        x.touch(2, 840);
        x.tune(2, 2000000);
        D.type(x, "0:1!700+5;3:0!90;0:1!900;");
        x.play();
        x.pluck(2, 100, 1000);
        x.pluck(1, 2300, 600);
        x.run(3);
        D.type(x, "1:4!7;");
    });

    private static final Stage TWO_STATES = new Stage("two states in the history", 1, x -> {
        x.fret(1260, 1000);
        x.pluck(0, 1260, 100);
        D.type(x, "0:1!1;");
    });

    private static final Stage FULL = new Stage("frets, ticks, text and history that are full", 12, x -> {
        for (int fret = 1; fret <= 12; fret++) {
            x.fret(200 * fret, 1500);
        }
        D.type(x, "3:0!1+500;3:1!1+500;3:0!1+500;3:1!1+500;3:0!1+500;3:1!1+500;3:0!1+500;3:1!1+500;");
        for (int plays = 0; plays < 25; plays++) {
            x.play();
        }
        x.press(0, 12);
        x.pluck(0, 2460, 1000);
        x.pluck(1, 2519, 1000);
    });

    private static final Stage[] STAGES = {NEW, RICH, TWO_STATES, FULL};

    public static void main(String[] args) {
        theStagesAreAsMeant();
        invalidFrets();
        invalidStrings();
        invalidModes();
        invalidTimes();
        invalidTexts();
        notPossible();
        limitReached();
        notFound();
        tellingChangesNothing();
        textCallsChangeTheTextAlone();
        changesRecordEverything();
        changesRecordNotTheText();
        refusedChangesAreNoStates();
        atMostFourStates();
        D.end();
    }

    private static void theStagesAreAsMeant() {
        D.due("a fault", RICH.build().fault(1), 2);
        D.due("states", RICH.build().count(12), 4);
        D.due("a string buzzes", RICH.build().stringInfo(0, 3), 1);
        D.due("frets lost by wear", RICH.build().count(6) > 0 ? 1 : 0, 1);
        D.due("modes are heard", RICH.build().count(2) > 0 ? 1 : 0, 1);
        D.due("states", TWO_STATES.build().count(12), 2);
        D.due("frets", FULL.build().count(0), 12);
        D.due("ticks", FULL.build().count(1), 100000);
        D.due("states", FULL.build().count(12), 4);
        D.due("the text", FULL.build().count(13), 80);
    }

    /** A call that answers as due and behind which everything is as it was, the history and the text, too. */
    private static void unchanged(Stage stage, String name, Call call, int due) {
        D.due(name + " in " + stage.name, call.on(stage.build()), due);
        List<Look> looks = stage.looksBehind(call);
        for (int undos = 0; undos <= MOST_STATES; undos++) {
            String difference = stage.looks.get(undos).difference(looks.get(undos));
            D.due(name + " in " + stage.name + ", behind " + undos + " undos: " + difference,
                difference.isEmpty() ? 0 : 1, 0);
        }
    }

    /** INVALID_ARGUMENT wherever at least one of the arguments is wrong, whatever the others and the state are. */
    private static void invalid(Stage stage, String name, Arguments call, int[]... finesAndWrongs) {
        int arguments = finesAndWrongs.length / 2;
        invalidFrom(stage, name, call, finesAndWrongs, new int[arguments], 0, false);
    }

    private static void invalidFrom(Stage stage, String name, Arguments call, int[][] finesAndWrongs, int[] chosen,
            int index, boolean oneIsWrong) {
        if (index == chosen.length) {
            if (oneIsWrong) {
                int[] arguments = chosen.clone();
                String whole = name + java.util.Arrays.toString(arguments);
                unchanged(stage, whole, x -> call.on(x, arguments), FrettedStrings.INVALID_ARGUMENT);
            }
            return;
        }
        for (int kind = 0; kind < 2; kind++) {
            for (int value : finesAndWrongs[2 * index + kind]) {
                chosen[index] = value;
                invalidFrom(stage, name, call, finesAndWrongs, chosen, index + 1, oneIsWrong || kind == 1);
            }
        }
    }

    private static void invalidFrets() {
        for (Stage stage : STAGES) {
            int[] frets = stage.frets > 0 ? new int[] {1, stage.frets} : new int[] {};
            int[] noFrets = stage.noFrets(false);
            invalid(stage, "fret", (x, a) -> x.fret(a[0], a[1]),
                new int[] {1, 1000, 2400}, new int[] {0, 2401, -1, MIN, MAX}, HEIGHTS, NO_HEIGHTS);
            invalid(stage, "level", (x, a) -> x.level(a[0], a[1]), frets, noFrets, HEIGHTS, NO_HEIGHTS);
            invalid(stage, "fretInfo", (x, a) -> x.fretInfo(a[0], a[1]),
                frets, noFrets, new int[] {0, 5}, new int[] {-1, 6, MIN, MAX});
            invalid(stage, "mostFor", (x, a) -> x.mostFor(a[0]), frets, noFrets);
        }
    }

    private static void invalidStrings() {
        for (Stage stage : STAGES) {
            invalid(stage, "tune", (x, a) -> x.tune(a[0], a[1]),
                STRINGS, NO_STRINGS, new int[] {1000, 100000000}, new int[] {999, 100000001, 0, -1000, MIN, MAX});
            invalid(stage, "press", (x, a) -> x.press(a[0], a[1]),
                STRINGS, NO_STRINGS, new int[] {0, stage.frets}, stage.noFrets(true));
            invalid(stage, "touch", (x, a) -> x.touch(a[0], a[1]),
                STRINGS, NO_STRINGS, new int[] {0, 1, 2519}, new int[] {-1, 2520, MIN, MAX});
            invalid(stage, "pluck", (x, a) -> x.pluck(a[0], a[1], a[2]),
                STRINGS, NO_STRINGS, PLACES, NO_PLACES, new int[] {1, 1000}, new int[] {0, 1001, -1, MIN, MAX});
            invalid(stage, "damp", (x, a) -> x.damp(a[0]), STRINGS, NO_STRINGS);
            invalid(stage, "stringInfo", (x, a) -> x.stringInfo(a[0], a[1]),
                STRINGS, NO_STRINGS, new int[] {0, 8}, new int[] {-1, 9, MIN, MAX});
        }
    }

    private static void invalidModes() {
        for (Stage stage : STAGES) {
            invalid(stage, "modeInfo", (x, a) -> x.modeInfo(a[0], a[1], a[2]),
                STRINGS, NO_STRINGS, MODES, NO_MODES, new int[] {0, 2}, new int[] {-1, 3, MIN, MAX});
            invalid(stage, "node", (x, a) -> x.node(a[0], a[1], a[2]),
                STRINGS, NO_STRINGS, MODES, NO_MODES, PLACES, NO_PLACES);
            invalid(stage, "nodeAgain", (x, a) -> x.nodeAgain(a[0], a[1], a[2]),
                STRINGS, NO_STRINGS, MODES, NO_MODES, PLACES, NO_PLACES);
            invalid(stage, "ticksTo", (x, a) -> x.ticksTo(a[0], a[1]), STRINGS, NO_STRINGS, MODES, NO_MODES);
        }
        for (int string = 0; string < 4; string++) {
            int same = string;
            unchanged(RICH, "beat of the string " + string + " with itself", x -> x.beat(same, 1, same, 2), -1);
            unchanged(RICH, "slowest of the string " + string + " with itself", x -> x.slowest(same, same, 0), -1);
        }
        int[] none = {};
        for (Stage stage : new Stage[] {NEW, RICH}) {
            invalid(stage, "beat", (x, a) -> x.beat(a[0], a[1], a[2], a[3]), new int[] {0}, NO_STRINGS,
                new int[] {1}, NO_MODES, new int[] {3}, new int[] {-1, 4, 0}, new int[] {12}, new int[] {0, 13});
            invalid(stage, "slowest", (x, a) -> x.slowest(a[0], a[1], a[2]),
                STRINGS, NO_STRINGS, none, NO_STRINGS, new int[] {0, 2}, new int[] {-1, 3, MIN, MAX});
            invalid(stage, "slowest", (x, a) -> x.slowest(a[0], a[1], a[2]),
                new int[] {2}, NO_STRINGS, new int[] {1}, NO_STRINGS, new int[] {0, 2}, new int[] {-1, 3, MIN, MAX});
        }
    }

    private static void invalidTimes() {
        int[] least = {0, 0, 0, 1, 0};
        int[] most = {1000, 100, 1000, 1000000, 100000};
        for (Stage stage : STAGES) {
            for (int what = 0; what < 5; what++) {
                invalid(stage, "set", (x, a) -> x.set(a[0], a[1]), new int[] {what}, new int[] {-1, 5, MIN, MAX},
                    new int[] {least[what], most[what]}, new int[] {least[what] - 1, most[what] + 1, MIN, MAX});
            }
            invalid(stage, "run", (x, a) -> x.run(a[0]), new int[] {}, new int[] {0, 501, -1, MIN, MAX});
            invalid(stage, "played", (x, a) -> x.played(a[0], a[1]),
                new int[] {0, 1, 100, MAX}, new int[] {-1, MIN}, new int[] {0, 2}, new int[] {-1, 3, MIN, MAX});
            invalid(stage, "count", (x, a) -> x.count(a[0]), new int[] {}, new int[] {-1, 14, MIN, MAX});
        }
    }

    private static void invalidTexts() {
        for (Stage stage : STAGES) {
            invalid(stage, "type", (x, a) -> x.type(a[0]),
                new int[] {}, new int[] {31, 127, -1, 0, 256 + 48, 65536 + 48, MIN, MAX});
            invalid(stage, "fault", (x, a) -> x.fault(a[0]), new int[] {}, new int[] {-1, 2, MIN, MAX});
        }
    }

    private static void notPossible() {
        unchanged(RICH, "a fret where there is one", x -> x.fret(1380, 1300), -2);
        unchanged(RICH, "a fret where the first one is", x -> x.fret(1000, 0), -2);
        unchanged(RICH, "a fret where the last one is", x -> x.fret(2000, 2000), -2);
        unchanged(FULL, "a fret where there is one rather than the limit", x -> x.fret(2400, 0), -2);
        unchanged(RICH, "level above the fret", x -> x.level(2, x.fretInfo(2, 1) + 1), -2);
        unchanged(RICH, "level to the most", x -> x.level(1, 2000), -2);
        unchanged(FULL, "level a little above", x -> x.level(12, 1501), -2);
        unchanged(RICH, "pluck where it sounds from", x -> x.pluck(0, 1380, 1), -2);
        unchanged(RICH, "pluck between the fret and where it sounds from", x -> x.pluck(0, 1001, 1000), -2);
        unchanged(RICH, "pluck ahead of all", x -> x.pluck(1, 1, 1), -2);
        unchanged(FULL, "pluck at the fret", x -> x.pluck(0, 2400, 1), -2);
        unchanged(NEW, "undo without states", x -> x.undo(), -2);
        unchanged(RICH, "play with a fault", x -> x.play(), -2);
        unchanged(FULL, "play with too many ticks", x -> x.play(), -2);
    }

    private static void limitReached() {
        unchanged(FULL, "a 13th fret", x -> x.fret(1, 0), -3);
        unchanged(FULL, "a 13th fret", x -> x.fret(2399, 2000), -3);
        unchanged(FULL, "a tick above the limit", x -> x.run(1), -3);
        unchanged(FULL, "ticks above the limit", x -> x.run(500), -3);
        unchanged(FULL, "an 81st character", x -> x.type(32), -3);
        unchanged(FULL, "an 81st character", x -> x.type(126), -3);
    }

    private static void notFound() {
        for (int mode = 1; mode <= 12; mode++) {
            int one = mode;
            unchanged(RICH, "node where it sounds from", x -> x.node(0, one, 1380), -4);
            unchanged(RICH, "nodeAgain where it sounds from", x -> x.nodeAgain(0, one, 1380), -4);
            unchanged(FULL, "node ahead of the fret", x -> x.node(0, one, 1), -4);
            unchanged(FULL, "nodeAgain ahead of the fret", x -> x.nodeAgain(0, one, 2399), -4);
        }
        unchanged(NEW, "beat of rest", x -> x.beat(0, 1, 1, 1), -4);
        unchanged(NEW, "slowest of rest", x -> x.slowest(0, 1, 0), -4);
        unchanged(NEW, "played of none", x -> x.played(0, 0), -4);
        unchanged(RICH, "played behind the last one", x -> x.played(x.count(4), 2), -4);
        unchanged(FULL, "played far behind", x -> x.played(MAX, 0), -4);
        unchanged(NEW, "fault of no text", x -> x.fault(0), -4);
        unchanged(NEW, "fault of no text", x -> x.fault(1), -4);
        unchanged(TWO_STATES, "fault of a text without one", x -> x.fault(0), -4);
        Stage loud = new Stage("a mode that stays", 0, x -> {
            x.set(0, 0);
            x.pluck(0, 1260, 1000);
        });
        unchanged(loud, "ticksTo of what is heard on", x -> x.ticksTo(0, 1), -4);
    }

    private static void tellingChangesNothing() {
        for (int fret = 1; fret <= 3; fret++) {
            int one = fret;
            unchanged(RICH, "mostFor", x -> Math.min(0, x.mostFor(one)), 0);
        }
        for (int string = 0; string < 4; string++) {
            int one = string;
            unchanged(RICH, "ticksTo", x -> Math.min(0, x.ticksTo(one, 1)), 0);
            unchanged(RICH, "nodes", x -> Math.min(0, x.modeInfo(one, 12, 2)), 0);
            unchanged(RICH, "pitch", x -> Math.min(0, x.modeInfo(one, 12, 1)), 0);
            unchanged(RICH, "node", x -> Math.min(0, x.node(one, 12, 2519)), 0);
            unchanged(RICH, "nodeAgain", x -> Math.min(0, x.nodeAgain(one, 12, 2519)), 0);
            unchanged(FULL, "ticksTo at the limit of ticks", x -> Math.min(0, x.ticksTo(one, 1)), 0);
        }
        unchanged(RICH, "beat", x -> Math.min(0, x.beat(0, 1, 2, 1)), 0);
        for (int what = 0; what < 3; what++) {
            int one = what;
            unchanged(RICH, "slowest", x -> Math.min(0, x.slowest(0, 2, one)), 0);
        }
        unchanged(RICH, "fault", x -> x.fault(1), 2);
    }

    private static void textCallsChangeTheTextAlone() {
        Call[] calls = {x -> x.type('x'), x -> x.type(';'), x -> x.clearText()};
        String[] ofTheText = {"count(13)", "fault(0)", "fault(1)"};
        for (Stage stage : new Stage[] {NEW, RICH, TWO_STATES}) {
            for (Call call : calls) {
                for (int undos = 0; undos <= MOST_STATES; undos++) {
                    String difference = stage.looksBehind(x -> 0).get(undos).without(ofTheText)
                        .difference(stage.looksBehind(call).get(undos).without(ofTheText));
                    D.due("the text alone in " + stage.name + ": " + difference, difference.isEmpty() ? 0 : 1, 0);
                }
            }
        }
    }

    private static final String[] CHANGE_NAMES = {"fret", "level", "level to its own height", "tune",
        "tune to its own tension", "press", "press where it is", "open", "touch", "no finger", "pluck", "damp",
        "damp at rest", "set", "set to its value", "run", "play", "play nothing"};

    private static final Call[] CHANGES = {x -> x.fret(1300, 2000), x -> x.level(1, 0), x -> x.level(1, x.fretInfo(1, 1)),
        x -> x.tune(0, 1000), x -> x.tune(1, x.stringInfo(1, 0)), x -> x.press(0, 1), x -> x.press(1, x.stringInfo(1, 1)),
        x -> x.press(1, 0), x -> x.touch(0, 5), x -> x.touch(3, 0), x -> x.pluck(0, 2500, 1000), x -> x.damp(0),
        x -> x.damp(3), x -> x.set(3, 1), x -> x.set(0, 10), x -> x.run(500), x -> playAnew(x, "0:1!1000+500;1:0!9;"),
        x -> playAnew(x, "")};

    private static int playAnew(Instrument x, String text) {
        D.retype(x, text);
        return x.play();
    }

    private static void changesRecordEverything() {
        for (int change = 0; change < CHANGES.length; change++) {
            Call call = CHANGES[change];
            String name = CHANGE_NAMES[change];
            for (Stage stage : new Stage[] {TWO_STATES, RICH}) {
                Instrument x = stage.build();
                int states = x.count(12);
                D.due(name + " is no error", call.on(x) >= 0 ? 1 : 0, 1);
                D.due(name + " is a state more", x.count(12), Math.min(MOST_STATES, states + 1));
                D.due("undo of " + name, x.undo(), Math.min(MOST_STATES, states + 1) - 1);
                String[] free = {"count(12)", "count(13)", "fault(0)", "fault(1)"};
                String difference = stage.looksBehind(y -> 0).get(0).without(free).difference(new Look(x).without(free));
                D.due("undo of " + name + " in " + stage.name + ": " + difference, difference.isEmpty() ? 0 : 1, 0);
            }
        }
    }

    private static void changesRecordNotTheText() {
        for (int change = 0; change < CHANGES.length; change++) {
            Instrument x = TWO_STATES.build();
            CHANGES[change].on(x);
            D.retype(x, "0:1!1;1:0!1;?");
            x.undo();
            D.due("the text stays behind the undo of " + CHANGE_NAMES[change], x.count(13), 13);
            D.due("its fault, too", x.fault(0), 12);
        }
    }

    private static void refusedChangesAreNoStates() {
        Call[] refused = {x -> x.fret(0, 0), x -> x.fret(1260, 0), x -> x.level(2, 0), x -> x.level(1, 1001),
            x -> x.tune(0, 1), x -> x.press(0, 2), x -> x.touch(0, 2520), x -> x.pluck(0, 0, 1), x -> x.damp(4),
            x -> x.set(3, 0), x -> x.run(0), x -> playAnew(x, "0:2!1;")};
        for (Call call : refused) {
            Instrument x = TWO_STATES.build();
            D.due("an error", call.on(x) < 0 ? 1 : 0, 1);
            D.due("no state more", x.count(12), 2);
        }
    }

    private static void atMostFourStates() {
        for (int changes = 0; changes <= 9; changes++) {
            Instrument x = new Instrument();
            for (int i = 1; i <= changes; i++) {
                x.tune(0, 1000 + i);
                D.due("states behind " + i + " changes", x.count(12), Math.min(i, MOST_STATES));
            }
            int states = Math.min(changes, MOST_STATES);
            for (int undos = 1; undos <= states; undos++) {
                D.due("undo " + undos + " of " + changes, x.undo(), states - undos);
                D.due("the states then", x.count(12), states - undos);
                int due = changes - undos == 0 ? 1000000 : 1000 + changes - undos;
                D.due("the tension then", x.stringInfo(0, 0), due);
            }
            D.due("undo of an empty history", x.undo(), -2);
            D.due("it begins anew", x.tune(1, 5000), 1334000);
            D.due("with one state", x.count(12), 1);
            D.due("which is undone", x.undo(), 0);
            D.due("to what was", x.stringInfo(1, 0), 1334000);
        }
    }
}
