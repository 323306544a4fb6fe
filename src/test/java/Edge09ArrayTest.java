/** 'ARRAY: [ OBJECTS ], at most 60.' */
final class Edge09ArrayTest {
    private static final Edges EDGES = new Edges("arrays");

    public static void main(String[] args) {
        for (int items : new int[] {0, 1, 2, 59, 60, 61, 62, 120}) {
            howMany(items, "1 ", "1");
            howMany(items, "/a", "/a");
            howMany(items, "()", "<>");
            howMany(items, "[]", "[]");
            howMany(items, "1 2 R ", "1 2 R");
        }
        eachForItself();
        unclosed();
        lastItem();
        EDGES.finish();
    }

    private static void howMany(int items, String one, String written) {
        String text = "[" + one.repeat(items) + "]";
        if (items <= 60) {
            String joined = (written + " ").repeat(items).trim();
            EDGES.good(text, 6, "[" + joined + "]");
            EDGES.due("look(1) of " + text, Checks.holding(text).look(1), items);
        } else {
            EDGES.bad(text);
            EDGES.bad("[" + text + "]");
            EDGES.bad("<</a" + text + ">>");
        }
    }

    /** The items of an array in an array are not the outer one's. */
    private static void eachForItself() {
        String sixty = "[" + "/a".repeat(60) + "]";
        EDGES.reads("[" + sixty.repeat(8) + "]", 6);
        EDGES.reads("[" + "/a".repeat(59) + sixty + "]", 6);
        EDGES.bad("[" + "/a".repeat(60) + sixty + "]");
        EDGES.bad("[" + "/a".repeat(59) + "[" + "/a".repeat(61) + "]]");
        EDGES.reads("[" + "1 ".repeat(57) + "1 2 R[]<<>>]", 6);
        EDGES.bad("[" + "1 ".repeat(58) + "1 2 R[]<<>>]");
    }

    private static void unclosed() {
        for (String text : new String[] {"[", "]", "[[", "[]]", "[[]", "][", "[1", "1]", "[1)", "[1>", "[1>>", "(]", "[)",
                "[" + "/a".repeat(60), "[" + "/a".repeat(61), "[" + "/a".repeat(60) + " x]", "[1,2]", "[x]", "[1 x]"}) {
            EDGES.bad(text);
        }
    }

    private static void lastItem() {
        ValueTexts x = Checks.holding("[" + "/a ".repeat(59) + "77]");
        EDGES.due("item(60)", x.item(60), ValueTexts.NONE);
        EDGES.due("item(59)", x.item(59), 3);
        EDGES.due("look(1)", x.look(1), 77);
    }
}
