/** 'REGULAR: bytes 33 to 126 but these. A WORD: regular bytes, as many as there are.' */
final class Edge04WordTest {
    private static final Edges EDGES = new Edges("regular bytes and words");

    public static void main(String[] args) {
        everyByte();
        asManyAsThereAre();
        EDGES.finish();
    }

    private static void everyByte() {
        for (int b = 0; b <= 255; b++) {
            boolean regular = b >= 33 && b <= 126 && "()<>[]/".indexOf(b) < 0;
            String name = "/a" + (char) b + "c";
            if (regular) {
                EDGES.good(name, 4, name);
                EDGES.good("/" + (char) b, 4, "/" + (char) b);
            } else {
                EDGES.bad(name);
            }
        }
        EDGES.good("[/a!/a~]", 6, "[/a! /a~]");
        EDGES.good("[/a /a]", 6, "[/a /a]");
        EDGES.bad("[/a\u007f/a]");
        EDGES.bad("[/a\u001f/a]");
    }

    private static void asManyAsThereAre() {
        for (String text : new String[] {"nullnull", "null1", "1null", "true0", "falsetrue", "-1-1", "1-", "null!", "true~",
                "1 0 R0", "1 0 RR", "1 0R", "a".repeat(1000), "1".repeat(1000)}) {
            EDGES.bad(text);
        }
        EDGES.good("/nullnull", 4, "/nullnull");
        EDGES.good("[null/null]", 6, "[null /null]");
        EDGES.good("[1(2)3[4]5<36>7<<>>8]", 6, "[1 <32> 3 [4] 5 <36> 7 <<>> 8]");
        EDGES.good("[null[true]false]", 6, "[null [true] false]");
        // There may be no regular byte at all; then the name has none.
        EDGES.good("[//]", 6, "[/ /]");
    }
}
