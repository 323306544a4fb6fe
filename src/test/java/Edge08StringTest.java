/** STRING: '<, pairs of digits of base 16, >; at most 100 bytes.' */
final class Edge08StringTest {
    private static final Edges EDGES = new Edges("strings");

    public static void main(String[] args) {
        for (int length : new int[] {0, 1, 99, 100, 101, 102, 200}) {
            howLong(length, "(", "z", ")", "7a");
            howLong(length, "(", "\\)", ")", "29");
            howLong(length, "(", "\\172", ")", "7a");
            howLong(length, "<", "7a", ">", "7a");
            howLong(length, "<", "7A", ">", "7a");
        }
        mixedLengths();
        pairs();
        everyByteAsADigit();
        everyByteAsItIs();
        EDGES.finish();
    }

    private static void howLong(int length, String open, String one, String close, String written) {
        String text = open + one.repeat(length) + close;
        if (length <= 100) {
            EDGES.good(text, 5, "<" + written.repeat(length) + ">");
            EDGES.due("look(1) of " + text, Checks.holding(text).look(1), length);
            EDGES.due("bytes(0) of " + text, Checks.holding(text).bytes(0), length);
        } else if (text.length() <= 1000) {
            EDGES.bad(text);
            EDGES.bad("[" + text + "]");
        }
    }

    private static void mixedLengths() {
        EDGES.reads("(" + "a".repeat(98) + "\\(\\101)", 5);
        EDGES.bad("(" + "a".repeat(99) + "\\(\\101)");
        // Each string has its own hundred.
        EDGES.reads("[(" + "a".repeat(100) + ")(" + "b".repeat(100) + ")<" + "63".repeat(100) + ">]", 6);
        EDGES.bad("(" + "a".repeat(100));
        EDGES.bad("<" + "61".repeat(100));
        EDGES.bad("(" + "a".repeat(999));
    }

    private static void pairs() {
        for (String text : new String[] {"<0>", "<000>", "<" + "0".repeat(199) + ">", "<" + "0".repeat(201) + ">",
                "<", "<0", "<00", "<000", "< >", "<0 0>", "<00 00>", "<00 >", "< 00>", "<00>>", "<00>0"}) {
            EDGES.bad(text);
        }
        EDGES.good("<>", 5, "<>");
        EDGES.good("<0F>", 5, "<0f>");
    }

    private static void everyByteAsADigit() {
        for (int b = 0; b <= 255; b++) {
            char c = (char) b;
            boolean digit = Character.digit(c, 16) >= 0 && b < 128;
            EDGES.reads("<" + c + "0>", digit ? 5 : ValueTexts.BROKEN);
            EDGES.reads("<0" + c + ">", digit ? 5 : ValueTexts.BROKEN);
            if (digit) {
                EDGES.good("<" + c + "0>", 5, "<" + Character.toLowerCase(c) + "0>");
                EDGES.good("<0" + c + ">", 5, "<0" + Character.toLowerCase(c) + ">");
            }
        }
    }

    private static void everyByteAsItIs() {
        for (int b = 0; b <= 255; b++) {
            if (b != '(' && b != ')' && b != '\\') {
                EDGES.good("(" + (char) b + ")", 5, String.format("<%02x>", b));
            } else {
                EDGES.bad("(" + (char) b + ")");
            }
        }
    }
}
