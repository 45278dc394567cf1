import java.util.Random;

/** All promises: long runs of calls, the same ones each time, whose answers are held against those of the Model. */
public final class ModelTest {
    private static final int RUNS = 600;
    private static final int[] ODD = {-1, 0, Integer.MIN_VALUE, Integer.MAX_VALUE, 13, 4, 2520, 1 << 16};

    private static int wrong;
    private static long answers;

    private final Random random;
    private final int run;
    private final Instrument x = new Instrument();
    private final Model model = new Model();

    private ModelTest(int run) {
        this.run = run;
        random = new Random(7919L * run + 1);
    }

    public static void main(String[] args) {
        for (int run = 0; run < RUNS && wrong < 20; run++) {
            new ModelTest(run).go();
        }
        System.out.println(answers + " answers, " + wrong + " not as the model's");
        if (wrong != 0) {
            System.exit(1);
        }
    }

    private void go() {
        int frets = run % 13;
        for (int i = 0; i < frets; i++) {
            int position = 1 + random.nextInt(2400);
            int height = run % 3 == 0 ? 1400 + random.nextInt(200) : random.nextInt(2001);
            same("fret", x.fret(position, height), model.fret(position, height));
        }
        // A step may take two calls.
        while (x.callsLeft() >= 2) {
            if (random.nextInt(3) == 0) {
                change();
            } else {
                look();
            }
        }
    }

    private void same(String call, int got, int due) {
        answers++;
        if (got != due) {
            wrong++;
            System.out.println("run " + run + ": " + call + " answered " + got + ", the model " + due);
        }
    }

    /** Mostly a number of the range, now and then one at its edge or far from it. */
    private int number(int least, int most) {
        int kind = random.nextInt(40);
        if (kind == 0) {
            return ODD[random.nextInt(ODD.length)];
        }
        if (kind == 1) {
            return random.nextBoolean() ? least - 1 : most + 1;
        }
        if (kind < 5) {
            return random.nextBoolean() ? least : most;
        }
        return least + random.nextInt(most - least + 1);
    }

    private int string() {
        return run % 4 == 0 ? number(0, 1) : number(0, 3);
    }

    private int place() {
        int kind = random.nextInt(6);
        if (kind == 0) {
            return 2520 * number(1, 11) / 12;
        }
        if (kind == 1) {
            return 2520 - number(1, 120);
        }
        if (kind == 2 && model.count(0) > 0) {
            return model.fretInfo(1 + random.nextInt(model.count(0)), 0) + random.nextInt(3) - 1;
        }
        return number(1, 2519);
    }

    private void change() {
        int a = string();
        switch (random.nextInt(16)) {
            case 0 -> {
                int position = random.nextInt(4) == 0 ? place() : number(1, 2400);
                int height = random.nextInt(3) == 0 ? number(0, 2000) : number(1450, 1550);
                same("fret(" + position + ", " + height + ")", x.fret(position, height), model.fret(position, height));
            }
            case 1 -> {
                int fret = number(1, Math.max(1, model.count(0)));
                int most = model.fretInfo(fret, 1);
                int height = most < 0 ? number(0, 2000) : random.nextInt(4) == 0 ? number(0, most)
                    : most - random.nextInt(20) + 1;
                same("level(" + fret + ", " + height + ")", x.level(fret, height), model.level(fret, height));
            }
            case 2 -> {
                int tension = random.nextInt(3) == 0 ? number(1000, 100000000) : 252000 * (1 + random.nextInt(6));
                same("tune(" + a + ", " + tension + ")", x.tune(a, tension), model.tune(a, tension));
            }
            case 3, 4, 5 -> {
                int fret = number(0, model.count(0));
                same("press(" + a + ", " + fret + ")", x.press(a, fret), model.press(a, fret));
            }
            case 6 -> {
                int position = random.nextInt(4) == 0 ? 0 : place();
                same("touch(" + a + ", " + position + ")", x.touch(a, position), model.touch(a, position));
            }
            case 7, 8, 9, 10 -> {
                int position = place();
                int force = number(1, 1000);
                same("pluck(" + a + ", " + position + ", " + force + ")", x.pluck(a, position, force),
                    model.pluck(a, position, force));
            }
            case 11 -> {
                if (random.nextInt(3) == 0) {
                    same("damp(" + a + ")", x.damp(a), model.damp(a));
                }
            }
            case 12 -> setting();
            case 13 -> {
                int ticks = random.nextInt(3) > 0 ? number(1, 9) : number(1, 500);
                same("run(" + ticks + ")", x.run(ticks), model.run(ticks));
            }
            case 14 -> same("undo()", x.undo(), model.undo());
            default -> text();
        }
    }

    private void setting() {
        int what = number(0, 4);
        int value = switch (what) {
            case 0 -> random.nextInt(3) == 0 ? number(0, 1000) : number(0, 20);
            case 1 -> random.nextInt(3) == 0 ? number(0, 100) : number(0, 5);
            case 2 -> number(0, 1000);
            case 3 -> random.nextBoolean() ? number(1, 100) : number(1, 1000000);
            default -> random.nextBoolean() ? number(0, 100) : number(0, 100000);
        };
        same("set(" + what + ", " + value + ")", x.set(what, value), model.set(what, value));
    }

    private void text() {
        StringBuilder text = new StringBuilder();
        int notes = random.nextInt(14);
        for (int i = 0; i < notes; i++) {
            text.append(random.nextInt(4)).append(':').append(random.nextInt(5) == 0 ? "0" : "");
            text.append(random.nextInt(model.count(0) + 1)).append('!').append(1 + random.nextInt(1000));
            if (random.nextInt(3) == 0) {
                text.append('+').append(1 + random.nextInt(random.nextInt(5) == 0 ? 500 : 20));
            }
            text.append(';');
        }
        if (text.length() > 0 && random.nextInt(3) == 0) {
            text.setCharAt(random.nextInt(text.length()), "0123456789:!+; ~"
                .charAt(random.nextInt(16)));
        }
        if (x.callsLeft() < text.length() + 8) {
            return;
        }
        same("clearText()", x.clearText(), model.clearText());
        for (int i = 0; i < text.length(); i++) {
            same("type", x.type(text.charAt(i)), model.type(text.charAt(i)));
        }
        int character = number(32, 126);
        if (random.nextInt(6) == 0) {
            same("type(" + character + ")", x.type(character), model.type(character));
        }
        same("fault(0) of " + text, x.fault(0), model.fault(0));
        same("fault(1) of " + text, x.fault(1), model.fault(1));
        int times = random.nextInt(3);
        for (int i = 0; i < times; i++) {
            same("play() of " + text, x.play(), model.play());
        }
    }

    private void look() {
        int a = string();
        int b = string();
        int n = number(1, 12);
        int m = number(1, 12);
        int fret = number(1, Math.max(1, model.count(0)));
        switch (random.nextInt(14)) {
            case 0, 1 -> {
                int what = number(0, 5);
                same("fretInfo(" + fret + ", " + what + ")", x.fretInfo(fret, what), model.fretInfo(fret, what));
            }
            case 2 -> same("mostFor(" + fret + ")", x.mostFor(fret), model.mostFor(fret));
            case 3, 4, 5 -> {
                int what = number(0, 8);
                same("stringInfo(" + a + ", " + what + ")", x.stringInfo(a, what), model.stringInfo(a, what));
            }
            case 6 -> {
                int what = number(0, 2);
                same("modeInfo(" + a + ", " + n + ", " + what + ")", x.modeInfo(a, n, what), model.modeInfo(a, n, what));
            }
            case 7 -> {
                int x0 = place();
                same("node(" + a + ", " + n + ", " + x0 + ")", x.node(a, n, x0), model.node(a, n, x0));
                same("nodeAgain(" + a + ", " + n + ", " + x0 + ")", x.nodeAgain(a, n, x0), model.node(a, n, x0));
            }
            case 8 -> same("ticksTo(" + a + ", " + n + ")", x.ticksTo(a, n), model.ticksTo(a, n));
            case 9 -> same("beat(" + a + ", " + n + ", " + b + ", " + m + ")", x.beat(a, n, b, m), model.beat(a, n, b, m));
            case 10 -> {
                int what = number(0, 2);
                same("slowest(" + a + ", " + b + ", " + what + ")", x.slowest(a, b, what), model.slowest(a, b, what));
            }
            case 11 -> {
                int index = number(0, 20);
                int what = number(0, 2);
                same("played(" + index + ", " + what + ")", x.played(index, what), model.played(index, what));
            }
            case 12 -> {
                int what = number(0, 13);
                same("count(" + what + ")", x.count(what), model.count(what));
            }
            default -> {
                int what = number(0, 1);
                same("fault(" + what + ")", x.fault(what), model.fault(what));
            }
        }
    }
}
