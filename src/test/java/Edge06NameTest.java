/** 'NAME: / and a WORD of at most 20 bytes.' */
final class Edge06NameTest {
    private static final Edges EDGES = new Edges("names");
    private static final String LETTERS = "abcdefghijklmnopqrstuvwxyz";

    public static void main(String[] args) {
        for (int length = 0; length <= 25; length++) {
            String name = "/" + LETTERS.substring(0, length);
            if (length <= 20) {
                EDGES.good(name, 4, name);
                EDGES.good("[" + name + "]", 6, "[" + name + "]");
                EDGES.good("<<" + name + name + ">>", 7, "<<" + name + " " + name + ">>");
            } else {
                EDGES.bad(name);
                EDGES.bad("[" + name + "]");
                EDGES.bad("<<" + name + " 1>>");
                EDGES.bad("<</a" + name + ">>");
            }
        }
        EDGES.bad("/" + "a".repeat(999));
        theirBytes();
        EDGES.bad("/ a");
        EDGES.bad("a");
        EDGES.bad("//");
        EDGES.finish();
    }

    private static void theirBytes() {
        String longest = LETTERS.substring(0, 20);
        ValueTexts x = Checks.holding("/" + longest);
        EDGES.due("look(1) of the longest", x.look(1), 20);
        EDGES.due("bytes(0) of the longest", x.bytes(0), 20);
        EDGES.due("OUT", Checks.out(x), longest);
        x = Checks.holding("/");
        EDGES.due("look(1) of the one without bytes", x.look(1), 0);
        EDGES.due("bytes(0) of the one without bytes", x.bytes(0), 0);

        x = Checks.holding("<</" + longest + " 1>>");
        EDGES.due("find() of one byte more", Checks.finding(x, longest + "u"), ValueTexts.NONE);
        EDGES.due("find() of one byte less", Checks.finding(x, longest.substring(0, 19)), ValueTexts.NONE);
        EDGES.due("find() of the longest", Checks.finding(x, longest), 3);
    }
}
