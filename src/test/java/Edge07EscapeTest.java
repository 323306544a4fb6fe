/** STRING: '\ and one of ( ) \ mean that byte, \ and three digits 0 to 7, at most 377.' */
final class Edge07EscapeTest {
    private static final Edges EDGES = new Edges("bytes behind a \\");

    public static void main(String[] args) {
        everyNumber();
        everyByteAsADigit();
        oneByteBehind();
        brokenOff();
        EDGES.finish();
    }

    private static void everyNumber() {
        for (int number = 0; number <= 511; number++) {
            String text = "(" + String.format("\\%03o", number) + ")";
            if (number <= 255) {
                EDGES.good(text, 5, String.format("<%02x>", number));
            } else {
                EDGES.bad(text);
            }
        }
        EDGES.good("(\\3770)", 5, "<ff30>");
        EDGES.good("(\\0000)", 5, "<0030>");
        EDGES.good("(\\000\\377)", 5, "<00ff>");
    }

    private static void everyByteAsADigit() {
        for (int b = 0; b <= 255; b++) {
            char c = (char) b;
            boolean digit = b >= '0' && b <= '7';
            boolean meant = b == '(' || b == ')' || b == '\\';
            EDGES.reads("(\\" + c + "00)", meant || b >= '0' && b <= '3' ? 5 : ValueTexts.BROKEN);
            EDGES.reads("(\\0" + c + "0)", digit ? 5 : ValueTexts.BROKEN);
            EDGES.reads("(\\00" + c + ")", digit ? 5 : ValueTexts.BROKEN);
        }
        for (String text : new String[] {"(\\8)", "(\\08)", "(\\008)", "(\\800)", "(\\/00)", "(\\ 00)", "(\\-00)"}) {
            EDGES.bad(text);
        }
    }

    private static void oneByteBehind() {
        EDGES.good("(\\()", 5, "<28>");
        EDGES.good("(\\))", 5, "<29>");
        EDGES.good("(\\\\)", 5, "<5c>");
        for (String text : new String[] {"(()", "())", "(\\)", "(\\n)", "(\\r)", "(\\\n)", "(\\<)", "(\\])", "(\\\\\\)"}) {
            EDGES.bad(text);
        }
    }

    private static void brokenOff() {
        for (String text : new String[] {"(\\", "(\\0", "(\\00", "(\\000", "(\\0)", "(\\00)", "(\\(", "(\\\\", "\\000", "\\("}) {
            EDGES.bad(text);
        }
    }
}
