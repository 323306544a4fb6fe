/** 'OUT has bytes, none at first.' */
final class Edge03OutTest {
    private static final Edges EDGES = new Edges("OUT");

    public static void main(String[] args) {
        noneAtFirst();
        noneUntilItIsAskedFor();
        othersLeaveIt();
        emptyAgain();
        asLongAsCanBe();
        EDGES.finish();
    }

    private static void noneAtFirst() {
        EDGES.due("octet(-1)", new ValueTexts().octet(-1), 0);
        for (int i : new int[] {0, 1, 1999, 2000}) {
            EDGES.due("octet(" + i + ")", new ValueTexts().octet(i), ValueTexts.NONE);
        }
    }

    private static void noneUntilItIsAskedFor() {
        ValueTexts x = new ValueTexts();
        x.write();
        x.bytes(0);
        EDGES.due("octet(-1) behind write and bytes without a value", x.octet(-1), 0);
        Checks.reading(x, "[/a]");
        x.item(0);
        EDGES.due("octet(-1) behind read and item", x.octet(-1), 0);
        EDGES.due("octet(0)", x.octet(0), ValueTexts.NONE);
        EDGES.due("bytes(0)", x.bytes(0), 1);
        EDGES.due("octet(-1) behind bytes", x.octet(-1), 1);
        EDGES.due("octet(0)", x.octet(0), 'a');
        EDGES.due("octet(1)", x.octet(1), ValueTexts.NONE);
    }

    private static void othersLeaveIt() {
        ValueTexts x = Edges.known();
        x.end(4);
        x.read();
        Checks.reading(x, "<</new[1]>>");
        x.top();
        x.look(1);
        Checks.finding(x, "new");
        x.bytes(0);
        x.item(0);
        x.item(0);
        x.octet(-1);
        x.octet(1);
        EDGES.shows("behind all the others", x, Edges.KNOWN_OUT, "1", "<</new [1]>>", "");
    }

    private static void emptyAgain() {
        ValueTexts x = Edges.knownWithoutTape();
        Checks.reading(x, "()");
        EDGES.due("bytes(0) of ()", x.bytes(0), 0);
        EDGES.due("octet(-1)", x.octet(-1), 0);
        EDGES.due("octet(0), nothing of the longer one is left", x.octet(0), ValueTexts.NONE);
    }

    /** Ten strings that fill the tape: two bytes of OUT for almost each one of it. */
    private static void asLongAsCanBe() {
        String text = "[" + ("(" + "\u00fe".repeat(100) + ")").repeat(9) + "(" + "\u00ef".repeat(78) + ")]";
        EDGES.due("the text's length", text.length(), 1000);
        String written = "[" + ("<" + "fe".repeat(100) + "> ").repeat(9) + "<" + "ef".repeat(78) + ">]";
        EDGES.due("the written text's length", written.length(), 1987);
        EDGES.writes(text, written);
        ValueTexts x = Checks.holding(text);
        x.write();
        EDGES.due("octet(1986)", x.octet(1986), ']');
        EDGES.due("octet(1987)", x.octet(1987), ValueTexts.NONE);
    }
}
