import java.util.ArrayList;
import java.util.LinkedHashMap;
import java.util.List;
import java.util.Map;
import java.util.regex.Matcher;
import java.util.regex.Pattern;

/** The document once more, with the means of the Java library, to compare the class with. */
final class Model {
    /** A value: of an array its items, of a dict its pairs, of the others what they are made of. */
    private static final class Thing {
        final int kind;
        int number;
        int other;
        String text = "";
        final List<Thing> items = new ArrayList<>();
        final Map<String, Thing> pairs = new LinkedHashMap<>();

        Thing(int kind) {
            this.kind = kind;
        }
    }

    private static final class Broken extends Exception {
        private static final long serialVersionUID = 1;
    }

    private static final String REGULAR = "[!-~&&[^()<>\\[\\]/]]";
    private static final String WORD_ENDS = "(?!" + REGULAR + ")";
    private static final Pattern WHITE = Pattern.compile("[ \\n\\r]*");
    private static final Pattern REF =
            Pattern.compile("(\\d{1,9})[ \\n\\r]+(\\d{1,9})[ \\n\\r]+R" + WORD_ENDS);
    private static final Pattern INT = Pattern.compile("(-?\\d{1,9})" + WORD_ENDS);
    private static final Pattern WORD = Pattern.compile("(null|true|false)" + WORD_ENDS);
    private static final Pattern NAME = Pattern.compile("/(" + REGULAR + "{0,20})" + WORD_ENDS);
    private static final Pattern PLAIN = Pattern.compile("\\(((?:[^()\\\\]|\\\\[()\\\\]|\\\\[0-3][0-7][0-7])*+)\\)");
    private static final Pattern ESCAPE = Pattern.compile("\\\\(?:([()\\\\])|([0-7]{3}))");
    private static final Pattern HEX = Pattern.compile("<((?:[0-9a-fA-F]{2})*+)>");

    private final StringBuilder tape = new StringBuilder();
    private String out = "";
    private Thing value = null;
    private Thing point = null;

    // The parser's place: what is left to read, and what the latest pattern matched.
    private String source = "";
    private int at = 0;
    private Matcher matched = null;

    int feed(int[] words) {
        if (tape.length() + 20 > 1000) {
            return ValueTexts.FULL;
        }
        for (int word : words) {
            for (int shift = 24; shift >= 0; shift -= 8) {
                tape.append((char) (word >> shift & 255));
            }
        }
        return tape.length();
    }

    int end(int n) {
        if (n < 0 || n > tape.length()) {
            return ValueTexts.REFUSED;
        }
        tape.setLength(n);
        return n;
    }

    int read() {
        source = tape.toString();
        at = 0;
        tape.setLength(0);
        try {
            Thing thing = parse(8);
            take(WHITE);
            if (at != source.length()) {
                return ValueTexts.BROKEN;
            }
            value = thing;
            point = thing;
            return thing.kind;
        } catch (Broken broken) {
            return ValueTexts.BROKEN;
        }
    }

    private boolean take(Pattern pattern) {
        matched = pattern.matcher(source);
        matched.region(at, source.length());
        if (!matched.lookingAt()) {
            return false;
        }
        at = matched.end();
        return true;
    }

    private boolean take(String sign) {
        if (!source.startsWith(sign, at)) {
            return false;
        }
        at += sign.length();
        return true;
    }

    private Thing parse(int levels) throws Broken {
        take(WHITE);
        Thing thing;
        if (take(REF)) {
            thing = new Thing(8);
            thing.number = Integer.parseInt(matched.group(1));
            thing.other = Integer.parseInt(matched.group(2));
            require(thing.number < 300 && thing.other < 65536);
        } else if (take(INT)) {
            thing = new Thing(3);
            thing.number = Integer.parseInt(matched.group(1));
        } else if (take(WORD)) {
            thing = new Thing(List.of("null", "true", "false").indexOf(matched.group(1)));
        } else if (take(NAME)) {
            thing = withText(4, matched.group(1));
        } else if (take(PLAIN)) {
            String meant = ESCAPE.matcher(matched.group(1)).replaceAll(escape -> Matcher.quoteReplacement(
                    escape.group(1) != null ? escape.group(1) : "" + (char) Integer.parseInt(escape.group(2), 8)));
            thing = withText(5, meant);
        } else if (take("<<")) {
            thing = parseDict(levels - 1);
        } else if (take(HEX)) {
            StringBuilder meant = new StringBuilder();
            for (int i = 0; i < matched.group(1).length(); i += 2) {
                meant.append((char) Integer.parseInt(matched.group(1).substring(i, i + 2), 16));
            }
            thing = withText(5, meant.toString());
        } else {
            require(take("["));
            thing = parseArray(levels - 1);
        }
        return thing;
    }

    private Thing withText(int kind, String text) throws Broken {
        require(text.length() <= 100);
        Thing thing = new Thing(kind);
        thing.text = text;
        thing.number = text.length();
        return thing;
    }

    private Thing parseArray(int levels) throws Broken {
        require(levels >= 0);
        Thing array = new Thing(6);
        take(WHITE);
        while (!take("]")) {
            array.items.add(parse(levels));
            take(WHITE);
        }
        array.number = array.items.size();
        require(array.number <= 60);
        return array;
    }

    private Thing parseDict(int levels) throws Broken {
        require(levels >= 0);
        Thing dict = new Thing(7);
        take(WHITE);
        while (!take(">>")) {
            require(take(NAME));
            String name = matched.group(1);
            require(dict.pairs.put(name, parse(levels)) == null);
            take(WHITE);
        }
        dict.number = dict.pairs.size();
        require(dict.number <= 30);
        return dict;
    }

    private static void require(boolean holds) throws Broken {
        if (!holds) {
            throw new Broken();
        }
    }

    int write() {
        if (point == null) {
            return ValueTexts.NONE;
        }
        out = written(point);
        return out.length();
    }

    private static String written(Thing thing) {
        List<String> parts = new ArrayList<>();
        switch (thing.kind) {
            case 3:
                return Integer.toString(thing.number);
            case 4:
                return "/" + thing.text;
            case 5:
                thing.text.chars().forEach(b -> parts.add(String.format("%02x", b)));
                return "<" + String.join("", parts) + ">";
            case 6:
                thing.items.forEach(item -> parts.add(written(item)));
                return "[" + String.join(" ", parts) + "]";
            case 7:
                thing.pairs.forEach((name, of) -> parts.add("/" + name + " " + written(of)));
                return "<<" + String.join(" ", parts) + ">>";
            case 8:
                return thing.number + " " + thing.other + " R";
            default:
                return List.of("null", "true", "false").get(thing.kind);
        }
    }

    int top() {
        return pointAt(value);
    }

    int item(int k) {
        if (point == null || k < 0) {
            return ValueTexts.NONE;
        }
        List<Thing> parts = new ArrayList<>(point.kind == 7 ? point.pairs.values() : point.items);
        return k < parts.size() ? pointAt(parts.get(k)) : ValueTexts.NONE;
    }

    int find() {
        String name = tape.toString();
        tape.setLength(0);
        return point == null ? ValueTexts.NONE : pointAt(point.pairs.get(name));
    }

    private int pointAt(Thing thing) {
        if (thing == null) {
            return ValueTexts.NONE;
        }
        point = thing;
        return thing.kind;
    }

    int look(int what) {
        if (what < 0 || what > 3) {
            return ValueTexts.REFUSED;
        }
        if (point == null) {
            return ValueTexts.NONE;
        }
        return new int[] {point.kind, point.number, point.other, count(point)}[what];
    }

    private static int count(Thing thing) {
        int count = 1;
        for (Thing item : thing.items) {
            count += count(item);
        }
        for (Thing of : thing.pairs.values()) {
            count += count(of);
        }
        return count;
    }

    int bytes(int k) {
        if (point == null) {
            return ValueTexts.NONE;
        }
        List<String> names = new ArrayList<>(point.pairs.keySet());
        if (point.kind == 4 || point.kind == 5) {
            out = point.text;
        } else if (k >= 0 && k < names.size()) {
            out = names.get(k);
        } else {
            return ValueTexts.NONE;
        }
        return out.length();
    }

    int octet(int i) {
        if (i == -1) {
            return out.length();
        }
        return i >= 0 && i < out.length() ? out.charAt(i) : ValueTexts.NONE;
    }
}
