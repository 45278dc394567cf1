import java.util.LinkedHashMap;
import java.util.Map;

/** All that can be seen of an instrument, by the calls that change nothing. */
final class Look {
    private final Map<String, Integer> answers = new LinkedHashMap<>();

    Look(Instrument x) {
        for (int what = 0; what <= 13; what++) {
            answers.put("count(" + what + ")", x.count(what));
        }
        for (int fret = 1; fret <= x.count(0); fret++) {
            for (int what = 0; what <= 5; what++) {
                answers.put("fretInfo(" + fret + ", " + what + ")", x.fretInfo(fret, what));
            }
        }
        for (int string = 0; string < 4; string++) {
            for (int what = 0; what <= 8; what++) {
                answers.put("stringInfo(" + string + ", " + what + ")", x.stringInfo(string, what));
            }
            for (int mode = 1; mode <= 12; mode++) {
                answers.put("modeInfo(" + string + ", " + mode + ", 0)", x.modeInfo(string, mode, 0));
            }
        }
        for (int index = 0; index <= x.count(4); index++) {
            for (int what = 0; what <= 2; what++) {
                answers.put("played(" + index + ", " + what + ")", x.played(index, what));
            }
        }
        answers.put("fault(0)", x.fault(0));
        answers.put("fault(1)", x.fault(1));
    }

    /** What one call of the other look answered otherwise; empty if there is none. */
    String difference(Look other) {
        for (Map.Entry<String, Integer> entry : answers.entrySet()) {
            Integer answer = other.answers.get(entry.getKey());
            if (!entry.getValue().equals(answer)) {
                return entry.getKey() + " was " + entry.getValue() + " and is " + answer;
            }
        }
        return other.answers.size() == answers.size() ? "" : "there is more to be seen";
    }

    /** Leaves out what an answer is free to differ in, such as the states of the history or the text. */
    Look without(String... calls) {
        for (String call : calls) {
            answers.remove(call);
        }
        return this;
    }
}
