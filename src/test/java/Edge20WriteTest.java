/** Promise 5: 'OUT becomes the WRITTEN point: how many bytes. NONE without one.' */
final class Edge20WriteTest {
    private static final Edges EDGES = new Edges("write");

    public static void main(String[] args) {
        withoutOne();
        shortestAndLongest();
        nothingElseChanges();
        EDGES.finish();
    }

    private static void withoutOne() {
        ValueTexts x = new ValueTexts();
        Checks.tape(x, "[1 2]");
        EDGES.due("write()", x.write(), ValueTexts.NONE);
        EDGES.due("write() again", x.write(), ValueTexts.NONE);
        EDGES.shows("behind it", x, "", null, null, "[1 2]");
        x = new ValueTexts();
        Checks.reading(x, "[1 2");
        EDGES.due("write() behind a broken text", x.write(), ValueTexts.NONE);
        EDGES.due("octet(-1)", x.octet(-1), 0);
        Checks.reading(x, "1");
        EDGES.due("write() with one", x.write(), 1);
    }

    private static void shortestAndLongest() {
        for (String text : new String[] {"/", "0", "<>", "[]", "<<>>", "0 0 R", "-999999999", "/abcdefghijklmnopqrst",
                "<" + "ab".repeat(100) + ">", "[" + "/ ".repeat(59) + "/]", "<</ />>"}) {
            EDGES.writes(text, text);
        }
        String names = "[" + "/".repeat(60) + "]";
        String written = "[" + "/ ".repeat(59) + "/]";
        EDGES.writes("[" + names.repeat(16) + "]", "[" + (written + " ").repeat(15) + written + "]");
    }

    private static void nothingElseChanges() {
        ValueTexts x = Edges.known();
        EDGES.due("write()", x.write(), Edges.KNOWN_POINT.length());
        EDGES.due("write() again", x.write(), Edges.KNOWN_POINT.length());
        EDGES.shows("behind it", x, Edges.KNOWN_POINT, Edges.KNOWN_POINT, Edges.KNOWN_VALUE, Edges.KNOWN_TAPE);
        x = Edges.known();
        x.item(0);
        EDGES.due("write() of a shorter one", x.write(), 1);
        EDGES.shows("behind it", x, "1", "1", Edges.KNOWN_VALUE, Edges.KNOWN_TAPE);
    }
}
