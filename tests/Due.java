/** Counts and prints the answers that are not as due. */
final class Due {
    private int answers;
    private int wrong;

    void due(String call, long got, long want) {
        answers++;
        if (got != want) {
            wrong++;
            System.out.println(call + " answered " + got + ", due is " + want);
        }
    }

    void type(Instrument x, String text) {
        for (int i = 0; i < text.length(); i++) {
            x.type(text.charAt(i));
        }
    }

    /** The text anew. */
    void retype(Instrument x, String text) {
        x.clearText();
        type(x, text);
    }

    void end() {
        System.out.println(answers + " answers, " + wrong + " not as due");
        if (wrong != 0) {
            System.exit(1);
        }
    }
}
