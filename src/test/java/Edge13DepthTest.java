/** 'Arrays and dicts lie in one another at most 8 deep.' */
final class Edge13DepthTest {
    private static final Edges EDGES = new Edges("depth");

    public static void main(String[] args) {
        everyMixOf(8);
        everyMixOf(9);
        howDeep();
        besideOneAnother();
        farTooDeep();
        walkedToTheEnd();
        EDGES.finish();
    }

    /** Each of the brackets is that of an array or of a dict; one that has nothing in it counts, too. */
    private static void everyMixOf(int depth) {
        for (int mix = 0; mix < 1 << depth; mix++) {
            int kind = depth > 8 ? ValueTexts.BROKEN : (mix & 1) == 0 ? 6 : 7;
            EDGES.reads(nested(depth, mix, " 1"), kind);
            EDGES.reads(nested(depth - 1, mix, (mix & 2) == 0 ? "[]" : "<<>>"), kind);
        }
    }

    private static String nested(int depth, int mix, String inmost) {
        StringBuilder text = new StringBuilder(inmost);
        for (int i = depth - 1; i >= 0; i--) {
            boolean array = (mix >> i & 1) == 0;
            text.insert(0, array ? "[" : "<</a").append(array ? "]" : ">>");
        }
        return text.toString();
    }

    private static void howDeep() {
        for (int depth = 1; depth <= 12; depth++) {
            String arrays = "[".repeat(depth) + "]".repeat(depth);
            String dicts = "<</a ".repeat(depth) + "1" + ">>".repeat(depth);
            if (depth <= 8) {
                EDGES.good(arrays, 6, arrays);
                EDGES.good(dicts, 7, dicts);
                EDGES.due("look(3) of " + arrays, Checks.holding(arrays).look(3), depth);
                EDGES.due("look(3) of " + dicts, Checks.holding(dicts).look(3), depth + 1);
            } else {
                EDGES.bad(arrays);
                EDGES.bad(dicts);
            }
        }
        for (String one : new String[] {"null", "true", "false", "1", "/a", "<61>", "1 2 R"}) {
            EDGES.good("[".repeat(8) + one + "]".repeat(8), 6, "[".repeat(8) + one + "]".repeat(8));
        }
    }

    /** What is closed is not counted any more. */
    private static void besideOneAnother() {
        String eight = "[".repeat(7) + "]".repeat(7);
        EDGES.good("[" + eight + eight + "<<>>]", 6, "[" + eight + " " + eight + " <<>>]");
        EDGES.good("[".repeat(7) + "[] <<>> [] <<>>" + "]".repeat(7), 6, "[".repeat(7) + "[] <<>> [] <<>>" + "]".repeat(7));
        EDGES.bad("[" + eight + "[" + eight + "]]");
        EDGES.bad("[[]" + "[".repeat(8) + "]".repeat(8) + "]");
    }

    private static void farTooDeep() {
        for (String text : new String[] {"[".repeat(500) + "]".repeat(500), "[".repeat(1000), "]".repeat(1000),
                "<</a".repeat(142) + "<<>>" + ">>".repeat(142), "<</a".repeat(250), "<<".repeat(500), "[<<".repeat(333)}) {
            EDGES.bad(text);
        }
    }

    private static void walkedToTheEnd() {
        ValueTexts x = Checks.holding("[".repeat(8) + "9" + "]".repeat(8));
        for (int i = 1; i < 8; i++) {
            EDGES.due("item(0), number " + i, x.item(0), 6);
        }
        EDGES.due("item(0), number 8", x.item(0), 3);
        EDGES.due("item(0), number 9", x.item(0), ValueTexts.NONE);
        EDGES.due("look(1)", x.look(1), 9);
    }
}
