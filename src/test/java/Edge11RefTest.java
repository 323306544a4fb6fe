/** 'REF: two numbers without a sign, below 300 and 65536, and the WORD R (with white between).' */
final class Edge11RefTest {
    private static final Edges EDGES = new Edges("refs");

    public static void main(String[] args) {
        limits();
        zerosInFront();
        theWordR();
        whiteBetween();
        twoNumbers();
        whatStandsAround();
        EDGES.finish();
    }

    private static void limits() {
        int[] numbers = {0, 1, 298, 299, 300, 301, 65535, 999999999};
        int[] others = {0, 1, 299, 300, 65534, 65535, 65536, 65537, 999999999};
        for (int number : numbers) {
            for (int other : others) {
                limit(number, other);
            }
        }
        EDGES.good("[300 65536]", 6, "[300 65536]");
        EDGES.good("[300 299 65535 R]", 6, "[300 299 65535 R]");
        EDGES.bad("[300 0 R]");
        EDGES.bad("[1 0 65536 R]");
    }

    private static void limit(int number, int other) {
        String text = number + " " + other + " R";
        if (number < 300 && other < 65536) {
            EDGES.good(text, 8, text);
            EDGES.due("look(1) of " + text, Checks.holding(text).look(1), number);
            EDGES.due("look(2) of " + text, Checks.holding(text).look(2), other);
        } else {
            EDGES.bad(text);
        }
    }

    /** The numbers are INTs, of nine digits at most. */
    private static void zerosInFront() {
        EDGES.good("000000299 000065535 R", 8, "299 65535 R");
        EDGES.good("00 00 R", 8, "0 0 R");
        EDGES.bad("0000000001 1 R");
        EDGES.bad("1 0000000001 R");
        EDGES.bad("000000300 0 R");
        EDGES.bad("0 000065536 R");
    }

    private static void theWordR() {
        for (String text : new String[] {"1 0 r", "1 0 RR", "1 0 R1", "1 0 1R", "1 0 /R", "1 0 (R)", "1 0 Q", "1 0 S", "1 0 ", "1 0",
                "R", "1 R", "[R]", "[1 R]", "R 1 0", "1 R 0", "[1 0 R R]",
                "[1 0 R1]", "[1 0 R1 0 R]", "[1 0 Rnull]"}) {
            EDGES.bad(text);
        }
    }

    private static void whiteBetween() {
        for (String white : new String[] {" ", "\n", "\r", "  ", "\r\n", " \n \r ", " ".repeat(400)}) {
            EDGES.good("12" + white + "34" + white + "R", 8, "12 34 R");
            EDGES.good("[12" + white + "34" + white + "R]", 6, "[12 34 R]");
        }
        for (String text : new String[] {"12 34R", "1234 R", "1234R", "12\t34 R", "12 34\tR", "12\00034 R", "12,34 R", "12/34 R"}) {
            EDGES.bad(text);
        }
    }

    private static void twoNumbers() {
        for (String text : new String[] {"1 2 3 R", "-1 0 R", "1 -0 R", "+1 0 R", "x 0 R", "1 x R", "null 0 R", "1 (0) R", "1 [] R"}) {
            EDGES.bad(text);
        }
        EDGES.good("[1 2 3 R]", 6, "[1 2 3 R]");
        EDGES.good("[1 2 R 3 4 R]", 6, "[1 2 R 3 4 R]");
        EDGES.good("[1 2]", 6, "[1 2]");
        EDGES.due("look(1) of [1 2 3 R]", Checks.holding("[1 2 3 R]").look(1), 2);
        EDGES.due("look(1) of [1 2 R 3 4 R]", Checks.holding("[1 2 R 3 4 R]").look(1), 2);
        EDGES.due("look(3) of [1 2 R 3 4 R]", Checks.holding("[1 2 R 3 4 R]").look(3), 3);
    }

    private static void whatStandsAround() {
        EDGES.good("[/a 1 2 R/b]", 6, "[/a 1 2 R /b]");
        EDGES.good("[(a)1 2 R(b)]", 6, "[<61> 1 2 R <62>]");
        EDGES.good("[[]1 2 R[]]", 6, "[[] 1 2 R []]");
        EDGES.good("<</a 1 2 R/b 3>>", 7, "<</a 1 2 R /b 3>>");
        EDGES.bad("1 2 R 3");
        EDGES.bad("<</a 1 2>>");
    }
}
