/** Promise 4: 'BROKEN if it is none (value and point stay).' */
final class Edge19BrokenTest {
    private static final Edges EDGES = new Edges("broken texts");

    public static void main(String[] args) {
        everyBeginning();
        overEachLimit();
        manyInTurn();
        EDGES.finish();
    }

    /** A text that ends too early is none, wherever it ends, and what was read of it is forgotten. */
    private static void everyBeginning() {
        String text = "<</a[1 -2(b\\051\\))<63>/d null 4 5 R]/e<</f true>>>>";
        for (int length = 0; length < text.length(); length++) {
            EDGES.bad(text.substring(0, length));
        }
        EDGES.good(text, 7, "<</a [1 -2 <622929> <63> /d null 4 5 R] /e <</f true>>>>");
        EDGES.bad(text + ">");
        EDGES.bad(text + "1");
    }

    private static void overEachLimit() {
        for (String text : new String[] {"1234567890", "/abcdefghijklmnopqrstu", "(" + "a".repeat(101) + ")", "<" + "61".repeat(101) + ">",
                "(\\400)", "[" + "1 ".repeat(61) + "]", Checks.dictOf(31), "<</a 1/a 2>>", "300 0 R", "0 65536 R",
                "[".repeat(9) + "]".repeat(9)}) {
            EDGES.bad(text);
            EDGES.bad("[/before " + text + "/behind]");
            EDGES.bad("<</before 1/it " + text + "/behind 2>>");
        }
    }

    /** Wherever the point is, it stays there through texts larger than the value, and read may come again. */
    private static void manyInTurn() {
        String large = "[(" + "x".repeat(100) + ")" + "/y".repeat(59);
        ValueTexts x = Checks.holding("[/one[2(three)]]");
        x.item(1);
        x.item(1);
        for (int i = 0; i < 5; i++) {
            EDGES.due("read() of a large broken text", Checks.reading(x, large + "/z"), ValueTexts.BROKEN);
            EDGES.due("look(1)", x.look(1), 5);
            EDGES.due("bytes(0)", x.bytes(0), 5);
            EDGES.due("OUT", Checks.out(x), "three");
        }
        EDGES.due("read() of a large good text", Checks.reading(x, large + "]"), 6);
        EDGES.due("look(1)", x.look(1), 60);
        EDGES.due("read() of a broken text", Checks.reading(x, "[1"), ValueTexts.BROKEN);
        EDGES.due("look(1)", x.look(1), 60);
        EDGES.due("item(59)", x.item(59), 4);
    }
}
