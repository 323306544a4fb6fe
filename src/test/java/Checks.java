import java.nio.charset.StandardCharsets;

/** What the tests share: they print every answer that is not the one that is due, and exit with 1 if there was one. */
class Checks {
    /** Objects are promised to answer for this many calls, so no test uses one for more. */
    static final int MOST_CALLS = 512;

    private static final int OCTETS_AT_ONCE = 400;

    private final String title;
    private int made = 0;
    private int wrong = 0;

    Checks(String title) {
        this.title = title;
    }

    void due(String what, long got, long want) {
        due(what, Long.toString(got), Long.toString(want));
    }

    void due(String what, String got, String want) {
        made++;
        if (!got.equals(want)) {
            wrong++;
            System.out.println(title + ": " + what + " answered " + got + ", due is " + want);
        }
    }

    void finish() {
        System.out.println(title + ": " + made + " checks, " + wrong + " wrong");
        if (wrong != 0 || made == 0) {
            System.exit(1);
        }
    }

    /** A text is read on a new object and must be of this kind, or BROKEN. */
    void reads(String text, int want) {
        due("read() of " + shown(text), reading(new ValueTexts(), text), want);
    }

    void broken(String text) {
        reads(text, ValueTexts.BROKEN);
    }

    /** A text must be read and be written so. */
    void writes(String text, String want) {
        due("write() of " + shown(text), written(text), want);
        due("write() of " + shown(text) + ", its length", holding(text).write(), want.length());
    }

    /** Puts a text, a character for each byte, on an empty tape. */
    static void tape(ValueTexts x, String text) {
        for (int from = 0; from < text.length(); from += 20) {
            x.feed(four(text, from), four(text, from + 4), four(text, from + 8), four(text, from + 12), four(text, from + 16));
        }
        x.end(text.length());
    }

    private static int four(String text, int from) {
        int word = 0;
        for (int i = from; i < from + 4; i++) {
            word = word << 8 | (i < text.length() ? text.charAt(i) : 0);
        }
        return word;
    }

    static int reading(ValueTexts x, String text) {
        tape(x, text);
        return x.read();
    }

    static int finding(ValueTexts x, String name) {
        tape(x, name);
        return x.find();
    }

    static ValueTexts holding(String text) {
        ValueTexts x = new ValueTexts();
        reading(x, text);
        return x;
    }

    /** All of a short OUT; an octet that is no byte becomes a question mark. */
    static String out(ValueTexts x) {
        return octets(x, 0, x.octet(-1));
    }

    static String octets(ValueTexts x, int from, int to) {
        StringBuilder text = new StringBuilder();
        for (int i = from; i < to; i++) {
            int b = x.octet(i);
            text.append(b >= 0 && b <= 255 ? (char) b : '?');
        }
        return text.toString();
    }

    /** A long OUT takes more calls than one object has, so it is looked at in several. */
    static String written(String text) {
        int size = Math.max(0, holding(text).write());
        StringBuilder all = new StringBuilder();
        for (int from = 0; from < size; from += OCTETS_AT_ONCE) {
            ValueTexts x = holding(text);
            x.write();
            all.append(octets(x, from, Math.min(size, from + OCTETS_AT_ONCE)));
        }
        return all.toString();
    }

    static String times(String text, int n) {
        return text.repeat(n);
    }

    /** A dict of n names, k0 and so on, each with its number. */
    static String dictOf(int n) {
        StringBuilder text = new StringBuilder("<<");
        for (int i = 0; i < n; i++) {
            text.append("/k").append(i).append(' ').append(i);
        }
        return text.append(">>").toString();
    }

    static String shown(String text) {
        StringBuilder shown = new StringBuilder("'");
        for (byte b : text.getBytes(StandardCharsets.ISO_8859_1)) {
            int c = b & 255;
            shown.append(c >= 32 && c < 127 ? String.valueOf((char) c) : "{" + c + "}");
        }
        return shown.append("'").toString();
    }
}
