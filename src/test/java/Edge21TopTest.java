/** Promise 6: 'THE POINT is THE VALUE: its KIND. NONE without one.' */
final class Edge21TopTest {
    private static final Edges EDGES = new Edges("top");

    public static void main(String[] args) {
        withoutOne();
        everyKind();
        fromEverywhere();
        EDGES.finish();
    }

    private static void withoutOne() {
        ValueTexts x = new ValueTexts();
        Checks.tape(x, "[1 2]");
        EDGES.due("top()", x.top(), ValueTexts.NONE);
        EDGES.due("top() again", x.top(), ValueTexts.NONE);
        EDGES.shows("behind it", x, "", null, null, "[1 2]");
        x = new ValueTexts();
        Checks.reading(x, "[1 2");
        EDGES.due("top() behind a broken text", x.top(), ValueTexts.NONE);
    }

    private static void everyKind() {
        String[] texts = {"null", "true", "false", "3", "/d", "<65>", "[6]", "<</g 7>>", "8 9 R"};
        for (int kind = 0; kind < texts.length; kind++) {
            ValueTexts x = Checks.holding(texts[kind]);
            EDGES.due("top() of " + texts[kind], x.top(), kind);
            EDGES.due("top() again", x.top(), kind);
            EDGES.shows("behind it", x, "", texts[kind], texts[kind], "");
        }
    }

    private static void fromEverywhere() {
        ValueTexts x = Edges.known();
        EDGES.due("top()", x.top(), 6);
        EDGES.shows("behind it", x, Edges.KNOWN_OUT, Edges.KNOWN_VALUE, Edges.KNOWN_VALUE, Edges.KNOWN_TAPE);
        x = Checks.holding("[".repeat(7) + "<</a 8>>" + "]".repeat(7));
        for (int down = 0; down <= 8; down++) {
            for (int i = 0; i < down; i++) {
                x.item(0);
            }
            EDGES.due("top() from " + down + " deep", x.top(), 6);
            EDGES.due("look(3)", x.look(3), 9);
        }
        Checks.reading(x, "broken");
        EDGES.due("top(), the value before the broken text", x.top(), 6);
        Checks.reading(x, "<<>>");
        EDGES.due("top(), the latest value", x.top(), 7);
    }
}
