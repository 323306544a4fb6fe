/** Promise 9: 'NONE without a point; REFUSED for another what, first.' */
final class Edge25LookRefusedTest {
    private static final Edges EDGES = new Edges("look refused");
    private static final int[] OTHERS = {-1, -2, 4, 5, 255, 256, 65536, Edges.LEAST, Edges.LEAST + 1, Edges.GREATEST};

    public static void main(String[] args) {
        withoutAPoint();
        withAPoint();
        EDGES.finish();
    }

    private static void withoutAPoint() {
        ValueTexts x = new ValueTexts();
        Checks.tape(x, "[1 2]");
        for (int what = 0; what <= 3; what++) {
            EDGES.due("look(" + what + ")", x.look(what), ValueTexts.NONE);
        }
        for (int what : OTHERS) {
            EDGES.due("look(" + what + ")", x.look(what), ValueTexts.REFUSED);
        }
        EDGES.shows("behind it", x, "", null, null, "[1 2]");
        x = new ValueTexts();
        Checks.reading(x, "[1 2");
        EDGES.due("look(0) behind a broken text", x.look(0), ValueTexts.NONE);
        EDGES.due("look(4) behind a broken text", x.look(4), ValueTexts.REFUSED);
    }

    private static void withAPoint() {
        for (int what : OTHERS) {
            ValueTexts x = Edges.known();
            EDGES.due("look(" + what + ")", x.look(what), ValueTexts.REFUSED);
            EDGES.allStays("behind it", x);
        }
        for (String text : new String[] {"null", "true", "false", "3", "/d", "<65>", "[6]", "<</g 7>>", "8 9 R"}) {
            for (int what : OTHERS) {
                EDGES.due("look(" + what + ") of " + text, Checks.holding(text).look(what), ValueTexts.REFUSED);
            }
        }
    }
}
