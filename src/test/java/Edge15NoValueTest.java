/** Promise 1: 'No value.' */
final class Edge15NoValueTest {
    private static final Edges EDGES = new Edges("no value");

    public static void main(String[] args) {
        everyCallFirst();
        untilATextIsGood();
        eachObjectForItself();
        EDGES.finish();
    }

    private static void everyCallFirst() {
        EDGES.due("write()", new ValueTexts().write(), ValueTexts.NONE);
        EDGES.due("top()", new ValueTexts().top(), ValueTexts.NONE);
        EDGES.due("find()", new ValueTexts().find(), ValueTexts.NONE);
        EDGES.due("read()", new ValueTexts().read(), ValueTexts.BROKEN);
        for (int k : new int[] {0, 1, -1, Edges.LEAST, Edges.GREATEST}) {
            EDGES.due("item(" + k + ")", new ValueTexts().item(k), ValueTexts.NONE);
            EDGES.due("bytes(" + k + ")", new ValueTexts().bytes(k), ValueTexts.NONE);
        }
        for (int what = 0; what <= 3; what++) {
            EDGES.due("look(" + what + ")", new ValueTexts().look(what), ValueTexts.NONE);
        }
        EDGES.shows("at first", new ValueTexts(), "", null, null, "");
    }

    private static void untilATextIsGood() {
        ValueTexts x = new ValueTexts();
        for (String text : new String[] {"", " ", "[1", "[/a 1]]", "<</a 1/a 2>>"}) {
            EDGES.due("read() of " + text, Checks.reading(x, text), ValueTexts.BROKEN);
            EDGES.shows("behind it", x, "", null, null, "");
        }
        EDGES.due("find()", Checks.finding(x, "a"), ValueTexts.NONE);
        EDGES.shows("behind it", x, "", null, null, "");
        EDGES.due("read() of null, which is a value", Checks.reading(x, "null"), 0);
        EDGES.shows("behind it", x, "", "null", "null", "");
    }

    private static void eachObjectForItself() {
        ValueTexts known = Edges.known();
        EDGES.shows("a new object beside another", new ValueTexts(), "", null, null, "");
        EDGES.allStays("the other", known);
    }
}
