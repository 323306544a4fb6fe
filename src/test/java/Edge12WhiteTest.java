/** 'White may stand between all these.' */
final class Edge12WhiteTest {
    private static final Edges EDGES = new Edges("white between");

    /** A text in the parts that white may stand between; where an underline ends a part it must. */
    private static final String[] PARTS = {"<<", "/a", "[", "1_", "-2", "/b", "(c d)", "<65>", "null_", "3_", "4_", "R", "[", "]",
        "<<", ">>", "]", "/f", "<<", "/g_", "true", "/h_", "false", ">>", "/i", "()", ">>"};
    private static final String WRITTEN =
            "<</a [1 -2 /b <632064> <65> null 3 4 R [] <<>>] /f <</g true /h false>> /i <>>>";

    public static void main(String[] args) {
        everywhere();
        atEachPlaceAlone();
        otherBytesAreNone();
        notInside();
        asMuchAsThereIsRoomFor();
        EDGES.finish();
    }

    private static void everywhere() {
        for (String white : new String[] {"", " ", "\n", "\r", "\r\n", "   ", "\n \r"}) {
            EDGES.good(joined(white, -1, ""), 7, WRITTEN);
        }
    }

    private static void atEachPlaceAlone() {
        for (int place = 0; place <= PARTS.length; place++) {
            for (String white : new String[] {" ", "\n", "\r", "\n\n"}) {
                EDGES.good(joined("", place, white), 7, WRITTEN);
            }
        }
    }

    private static void otherBytesAreNone() {
        for (int place = 0; place <= PARTS.length; place++) {
            for (int b : new int[] {0, 9, 11, 12, 14, 31, 127, 128, 133, 160, 255}) {
                EDGES.reads(joined("", place, "" + (char) b), ValueTexts.BROKEN);
            }
        }
        for (int b = 0; b <= 255; b++) {
            boolean white = b == 32 || b == 10 || b == 13;
            // Between / and ] there is a name.
            EDGES.reads("[" + (char) b + "true" + (char) b + "]", white || b == '/' ? 6 : ValueTexts.BROKEN);
        }
    }

    /** The text with this white between all parts, and before the part at a place with that white instead. */
    private static String joined(String white, int place, String there) {
        StringBuilder text = new StringBuilder();
        for (int i = 0; i <= PARTS.length; i++) {
            boolean needed = i > 0 && PARTS[i - 1].endsWith("_");
            String before = i == place ? there : white;
            text.append(needed && before.isEmpty() ? " " : before);
            text.append(i < PARTS.length ? PARTS[i].replace("_", "") : "");
        }
        return text.toString();
    }

    private static void notInside() {
        for (String text : new String[] {"nu ll", "1 2", "- 1", "/ a", "/a b", "<6 5>", "<65 65>", "< 65>", "<65 >", "< <>>", "<<> >",
                "(\\ 101)", "(\\1 01)", "t\nrue"}) {
            EDGES.bad(text);
        }
        EDGES.good("( )", 5, "<20>");
        EDGES.good("(\r\n)", 5, "<0d0a>");
        EDGES.good("[1 2]", 6, "[1 2]");
        EDGES.good("[12]", 6, "[12]");
    }

    private static void asMuchAsThereIsRoomFor() {
        EDGES.good("[" + " ".repeat(998) + "]", 6, "[]");
        EDGES.good("<<" + "\n".repeat(996) + ">>", 7, "<<>>");
        EDGES.good("[1" + "\r".repeat(996) + "2]", 6, "[1 2]");
        EDGES.bad("[" + " ".repeat(999));
    }
}
