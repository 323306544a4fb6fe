/** Promise 10: 'NONE if there is nothing of that. (Of a NAME, a STRING: whatever k is.)' */
final class Edge26BytesTest {
    private static final Edges EDGES = new Edges("bytes");
    private static final int[] ALL_KS = {0, 1, 2, -1, -2, 29, 30, 100, Edges.LEAST, Edges.LEAST + 1, Edges.GREATEST};

    public static void main(String[] args) {
        whateverKIs();
        namesOfDicts();
        nothingOfThat();
        withoutAValue();
        EDGES.finish();
    }

    private static void whateverKIs() {
        for (int k : ALL_KS) {
            gives("/", k, "");
            gives("/a", k, "a");
            gives("/abcdefghijklmnopqrst", k, "abcdefghijklmnopqrst");
            gives("()", k, "");
            gives("<>", k, "");
            gives("(\\000\\377)", k, "\0\u00ff");
            gives("(" + "z".repeat(100) + ")", k, "z".repeat(100));
            gives("<" + "ff".repeat(100) + ">", k, "\u00ff".repeat(100));
        }
    }

    private static void gives(String text, int k, String want) {
        ValueTexts x = Edges.knownWithoutTape();
        int kind = Checks.reading(x, text);
        EDGES.due("bytes(" + k + ") of " + Checks.shown(text), x.bytes(k), want.length());
        EDGES.due("OUT", Checks.out(x), want);
        EDGES.due("look(0), the point stays", x.look(0), kind);
        EDGES.due("look(1)", x.look(1), want.length());
    }

    private static void namesOfDicts() {
        for (int names : new int[] {0, 1, 2, 29, 30}) {
            String text = Checks.dictOf(names);
            for (int k = 0; k < names; k++) {
                ValueTexts x = Checks.holding(text);
                EDGES.due("bytes(" + k + ") of " + text, x.bytes(k), k < 10 ? 2 : 3);
                EDGES.due("OUT", Checks.out(x), "k" + k);
            }
            for (int k : new int[] {-1, -2, names, names + 1, 100, Edges.LEAST, Edges.GREATEST}) {
                EDGES.due("bytes(" + k + ") of " + text, Checks.holding(text).bytes(k), ValueTexts.NONE);
            }
        }
        for (int k : new int[] {-1, 2, Edges.LEAST, Edges.GREATEST}) {
            ValueTexts x = Edges.known();
            EDGES.due("bytes(" + k + ")", x.bytes(k), ValueTexts.NONE);
            EDGES.allStays("behind it", x);
        }
        ValueTexts x = Edges.known();
        EDGES.due("bytes(0)", x.bytes(0), 1);
        EDGES.shows("behind it", x, "a", Edges.KNOWN_POINT, Edges.KNOWN_VALUE, Edges.KNOWN_TAPE);
        x = Checks.holding("<</ 1/abcdefghijklmnopqrst[/b(c)]/d/e>>");
        EDGES.due("bytes(0), a name of no bytes", x.bytes(0), 0);
        EDGES.due("bytes(1), a longest name", x.bytes(1), 20);
        EDGES.due("bytes(2), the name behind an array", x.bytes(2), 1);
        EDGES.due("OUT", Checks.out(x), "d");
    }

    private static void nothingOfThat() {
        for (String text : new String[] {"null", "true", "false", "3", "[/a <62>]", "[]", "<<>>", "8 9 R"}) {
            ValueTexts x = Edges.knownWithoutTape();
            Checks.reading(x, text);
            for (int k : ALL_KS) {
                EDGES.due("bytes(" + k + ") of " + text, x.bytes(k), ValueTexts.NONE);
            }
            EDGES.shows("behind it", x, Edges.KNOWN_OUT, text, text, "");
        }
    }

    private static void withoutAValue() {
        ValueTexts x = new ValueTexts();
        Checks.tape(x, "/a");
        for (int k : ALL_KS) {
            EDGES.due("bytes(" + k + ")", x.bytes(k), ValueTexts.NONE);
        }
        EDGES.shows("behind it", x, "", null, null, "/a");
    }
}
