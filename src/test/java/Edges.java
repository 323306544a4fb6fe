/**
 * What the tests of boundaries share: an object whose whole state is known, and a look at all of it,
 * so that a call that is refused is seen to leave everything but what the document empties.
 */
final class Edges extends Checks {
    static final int LEAST = Integer.MIN_VALUE;
    static final int GREATEST = Integer.MAX_VALUE;

    static final String KNOWN_VALUE = "[7 <</a 1 /old 2>> /b]";
    static final String KNOWN_POINT = "<</a 1 /old 2>>";
    static final String KNOWN_OUT = "old";
    static final String KNOWN_TAPE = "[/on /tape]";

    private static final String NO_VALUE = "no value";

    /** How long a text may be written for its bytes to be fetched with the calls of one object. */
    private static final int SHORT = 200;

    Edges(String sentence) {
        super(sentence);
    }

    /** Has a value, a point in it, an OUT and a tape; it was used for ten calls. */
    static ValueTexts known() {
        ValueTexts x = knownWithoutTape();
        tape(x, KNOWN_TAPE);
        return x;
    }

    static ValueTexts knownWithoutTape() {
        ValueTexts x = holding(KNOWN_VALUE);
        x.item(1);
        x.bytes(1);
        return x;
    }

    void allStays(String behind, ValueTexts x) {
        shows(behind, x, KNOWN_OUT, KNOWN_POINT, KNOWN_VALUE, KNOWN_TAPE);
    }

    void allStaysButTheTapeIsEmpty(String behind, ValueTexts x) {
        shows(behind, x, KNOWN_OUT, KNOWN_POINT, KNOWN_VALUE, "");
    }

    /** The point and the value as they are written, or null; the tape as a text that is written so, too, or empty. */
    void shows(String behind, ValueTexts x, String out, String point, String value, String tape) {
        due(behind + ", then OUT", out(x), out);
        due(behind + ", then the point", writtenPoint(x), point == null ? NO_VALUE : point);
        x.top();
        due(behind + ", then the value", writtenPoint(x), value == null ? NO_VALUE : value);
        due(behind + ", then the tape's length and one more", x.end(tape.length() + 1), ValueTexts.REFUSED);
        due(behind + ", then the tape's length", x.end(tape.length()), tape.length());
        if (!tape.isEmpty()) {
            x.read();
            due(behind + ", then the tape", writtenPoint(x), tape);
        }
    }

    private static String writtenPoint(ValueTexts x) {
        return x.write() == ValueTexts.NONE ? NO_VALUE : out(x);
    }

    /** The text becomes the value and the point of an object that has others, and is written so. */
    void good(String text, int kind, String written) {
        ValueTexts x = knownWithoutTape();
        due("read() of " + shown(text), reading(x, text), kind);
        due("look(0) of " + shown(text), x.look(0), kind);
        due("end(1) behind read() of " + shown(text), x.end(1), ValueTexts.REFUSED);
        due("top() of " + shown(text), x.top(), kind);
        if (written.length() <= SHORT) {
            due("write() of " + shown(text), x.write(), written.length());
            due("OUT of " + shown(text), out(x), written);
        } else {
            writes(text, written);
        }
    }

    /** The text is refused, by a new object and by one that has a value, a point and an OUT, and these stay. */
    void bad(String text) {
        ValueTexts fresh = new ValueTexts();
        due("read() of " + shown(text), reading(fresh, text), ValueTexts.BROKEN);
        shows("behind read() of " + shown(text), fresh, "", null, null, "");
        ValueTexts x = knownWithoutTape();
        due("read() of " + shown(text), reading(x, text), ValueTexts.BROKEN);
        allStaysButTheTapeIsEmpty("behind read() of " + shown(text), x);
    }
}
