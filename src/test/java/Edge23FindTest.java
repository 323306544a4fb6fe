/** Promise 8: 'likewise (the TAPE is empty then, whatever comes).' */
final class Edge23FindTest {
    private static final Edges EDGES = new Edges("find");
    private static final String LONGEST = "abcdefghijklmnopqrst";

    public static void main(String[] args) {
        found();
        firstAndLast();
        notFound();
        noDict();
        withoutAValue();
        EDGES.finish();
    }

    private static void found() {
        ValueTexts x = Edges.knownWithoutTape();
        EDGES.due("find() of a", Checks.finding(x, "a"), 3);
        EDGES.shows("behind it", x, Edges.KNOWN_OUT, "1", Edges.KNOWN_VALUE, "");
        String[] values = {"null", "true", "false", "3", "/d", "<65>", "[6]", "<</g 7>>", "8 9 R"};
        for (int kind = 0; kind < values.length; kind++) {
            x = Checks.holding("<</before 1/it " + values[kind] + "/behind 2>>");
            EDGES.due("find() of " + values[kind], Checks.finding(x, "it"), kind);
            EDGES.shows("behind it", x, "", values[kind], "<</before 1 /it " + values[kind] + " /behind 2>>", "");
        }
    }

    private static void firstAndLast() {
        for (int i = 0; i <= 30; i++) {
            ValueTexts x = Checks.holding(Checks.dictOf(30));
            EDGES.due("find() of k" + i, Checks.finding(x, "k" + i), i < 30 ? 3 : ValueTexts.NONE);
            EDGES.due("look(1)", x.look(1), i < 30 ? i : 30);
            EDGES.due("end(1)", x.end(1), ValueTexts.REFUSED);
        }
        for (int length : new int[] {1, 19, 20}) {
            ValueTexts x = Checks.holding("<</" + LONGEST.substring(0, length) + " 1>>");
            EDGES.due("find() of one less", Checks.finding(x, LONGEST.substring(0, length - 1)), ValueTexts.NONE);
            EDGES.due("find() of one more", Checks.finding(x, (LONGEST + "u").substring(0, length + 1)), ValueTexts.NONE);
            EDGES.due("find() of it", Checks.finding(x, LONGEST.substring(0, length)), 3);
        }
        ValueTexts x = Checks.holding("<</a 1/ 2>>");
        EDGES.due("find() of the name of no bytes", x.find(), 3);
        EDGES.due("look(1)", x.look(1), 2);
    }

    private static void notFound() {
        for (String name : new String[] {"", "b", "A", "aa", "ol", "oldd", "/a", " a", "a ", "a\0", "1", "(a)", "<61>", "a".repeat(21),
                "a".repeat(1000), " ".repeat(1000)}) {
            ValueTexts x = Edges.knownWithoutTape();
            EDGES.due("find() of " + Checks.shown(name), Checks.finding(x, name), ValueTexts.NONE);
            EDGES.allStaysButTheTapeIsEmpty("behind it", x);
        }
        ValueTexts x = Checks.holding("<</out<</in 1>>/list[/listed 2]>>");
        for (String name : new String[] {"in", "listed"}) {
            EDGES.due("find() of " + name + ", which is deeper", Checks.finding(x, name), ValueTexts.NONE);
        }
        EDGES.shows("behind it", x, "", "<</out <</in 1>> /list [/listed 2]>>", "<</out <</in 1>> /list [/listed 2]>>", "");
    }

    private static void noDict() {
        for (String text : new String[] {"null", "true", "false", "3", "/a", "<61>", "[/a 1]", "[<</a 1>>]", "<<>>", "8 9 R"}) {
            ValueTexts x = Checks.holding(text);
            EDGES.due("find() of a in " + text, Checks.finding(x, "a"), ValueTexts.NONE);
            EDGES.due("find() of nothing in " + text, x.find(), ValueTexts.NONE);
            EDGES.shows("behind it", x, "", text, text, "");
        }
    }

    private static void withoutAValue() {
        for (String name : new String[] {"", "a", "a".repeat(20), "a".repeat(1000)}) {
            ValueTexts x = new ValueTexts();
            EDGES.due("find() without a value", Checks.finding(x, name), ValueTexts.NONE);
            EDGES.shows("behind it", x, "", null, null, "");
        }
    }
}
