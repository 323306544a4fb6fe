/** 'DICT: << { NAME OBJECT } >>, at most 30, names all different.' */
final class Edge10DictTest {
    private static final Edges EDGES = new Edges("dicts");

    public static void main(String[] args) {
        for (int names : new int[] {0, 1, 2, 29, 30, 31, 32, 60}) {
            howMany(names);
        }
        eachForItself();
        allDifferent();
        sameNames();
        wholePairs();
        unclosed();
        EDGES.finish();
    }

    private static void howMany(int names) {
        String text = Checks.dictOf(names);
        if (names <= 30) {
            EDGES.good(text, 7, text.replace("/", " /").replace("<< ", "<<"));
            EDGES.due("look(1) of " + text, Checks.holding(text).look(1), names);
        } else {
            EDGES.bad(text);
            EDGES.bad("[" + text + "]");
            EDGES.bad("<</a" + text + ">>");
        }
    }

    private static void eachForItself() {
        String thirty = Checks.dictOf(30);
        EDGES.reads("[" + thirty + thirty + thirty + "]", 6);
        EDGES.reads(Checks.dictOf(29).replace(">>", "/in" + thirty + ">>"), 7);
        EDGES.bad(Checks.dictOf(30).replace(">>", "/in<<>>>>"));
        EDGES.bad("<</in" + Checks.dictOf(31) + ">>");
    }

    private static void allDifferent() {
        for (String text : new String[] {"<</a 1 /b 1>>", "<</a 1 /A 1>>", "<</a 1 /aa 1>>", "<</aa 1 /a 1>>", "<</ab 1 /ac 1>>",
                "<</ab 1 /cb 1>>", "<</a /b /b /a>>", "<</a /a>>", "<</a <61>>>", "<</a <</a <</a 1>>>>>>", "<</a <</b 1>> /b 2>>",
                "<</1 1 /01 1>>", "<</ 1 /a 2>>", "<</a 1 /b [/a /a]>>"}) {
            EDGES.good(text, 7, text);
        }
        String start = "abcdefghijklmnopqrs";
        EDGES.good("<</" + start + "t 1 /" + start + "u 2>>", 7, "<</" + start + "t 1 /" + start + "u 2>>");
        EDGES.bad("<</" + start + "t 1 /" + start + "t 2>>");
    }

    private static void sameNames() {
        for (String text : new String[] {"<</a 1/a 1>>", "<</a 1/a 2>>", "<</a 1/b 2/a 3>>", "<</b 1/a 2/a 3>>", "<</a[1 2(b)]/a 1>>",
                "<</a<</b 1>>/a 2>>", "<</ 1/ 2>>", "[<</a 1/a 1>>]", "<</b<</a 1/a 1>>>>", "<</a 1/b<<>>/b 2>>"}) {
            EDGES.bad(text);
        }
        for (int k = 0; k < 29; k++) {
            EDGES.reads(Checks.dictOf(29).replace(">>", "/k" + k + " 1>>"), ValueTexts.BROKEN);
        }
        EDGES.reads(Checks.dictOf(29).replace(">>", "/k29 1>>"), 7);
    }

    private static void wholePairs() {
        for (String text : new String[] {"<</a>>", "<</a 1/b>>", "<<1>>", "<<1 2>>", "<<a 1>>", "<<(a)1>>", "<<[]1>>", "<</a 1 2>>",
                "<</a 1 2 3 R>>", "<</a x>>", "<<null>>"}) {
            EDGES.bad(text);
        }
    }

    private static void unclosed() {
        for (String text : new String[] {"<<", ">>", "<<>", "<>>", "< <>>", "<<> >", "<<>>>", "<<<>>", "<</a", "<</a 1", "<</a 1>", "<<>x", "<</a 1>x",
                "<</a 1> >", "<</a<00>>", "<</a<<>>", "<</a 1]", "[<<]>>", Checks.dictOf(30).replace(">>", ""),
                Checks.dictOf(30).replace(">>", ">"), Checks.dictOf(31).replace(">>", "")}) {
            EDGES.bad(text);
        }
    }
}
