/** Promise 9: what 1 and 2, 'else 0', and 3: 'how many values it is, those in it, too.' */
final class Edge24LookTest {
    private static final Edges EDGES = new Edges("look");

    public static void main(String[] args) {
        withoutANumber();
        leastAndGreatest();
        counts();
        inTheMidst();
        EDGES.finish();
    }

    /** The object has had a value before with numbers everywhere, so that nothing of it may show. */
    private static void looks(String text, int kind, int number, int other, int values) {
        ValueTexts x = Checks.holding("299 65535 R");
        Checks.reading(x, "[" + "299 65535 R ".repeat(60) + "]");
        Checks.reading(x, text);
        int[] wants = {kind, number, other, values};
        for (int what = 0; what <= 3; what++) {
            EDGES.due("look(" + what + ") of " + text, x.look(what), wants[what]);
        }
    }

    private static void withoutANumber() {
        looks("null", 0, 0, 0, 1);
        looks("true", 1, 0, 0, 1);
        looks("false", 2, 0, 0, 1);
        looks("/", 4, 0, 0, 1);
        looks("()", 5, 0, 0, 1);
        looks("<>", 5, 0, 0, 1);
        looks("[]", 6, 0, 0, 1);
        looks("<<>>", 7, 0, 0, 1);
        looks("0 0 R", 8, 0, 0, 1);
    }

    private static void leastAndGreatest() {
        looks("-999999999", 3, -999999999, 0, 1);
        looks("-1", 3, -1, 0, 1);
        looks("-2", 3, -2, 0, 1);
        looks("-0", 3, 0, 0, 1);
        looks("0", 3, 0, 0, 1);
        looks("999999999", 3, 999999999, 0, 1);
        looks("299 65535 R", 8, 299, 65535, 1);
        looks("/abcdefghijklmnopqrst", 4, 20, 0, 1);
        looks("(" + "\\177".repeat(100) + ")", 5, 100, 0, 1);
        looks("<" + "00".repeat(100) + ">", 5, 100, 0, 1);
        looks("[" + "/a".repeat(60) + "]", 6, 60, 0, 61);
        looks(Checks.dictOf(30), 7, 30, 0, 31);
    }

    private static void counts() {
        looks("[[]]", 6, 1, 0, 2);
        looks("[<<>>]", 6, 1, 0, 2);
        looks("<</a<<>>>>", 7, 1, 0, 2);
        looks("<</a/b>>", 7, 1, 0, 2);
        looks("[".repeat(8) + "]".repeat(8), 6, 1, 0, 8);
        looks("<</a".repeat(8) + "/b" + ">>".repeat(8), 7, 1, 0, 9);
        looks("[" + ("[" + "/".repeat(60) + "]").repeat(16) + "]", 6, 16, 0, 977);
        looks("[" + ("[" + "/".repeat(60) + "]").repeat(15) + "[" + "/".repeat(60) + "]" + "/".repeat(6) + "]", 6, 22, 0, 983);
    }

    /** Other values before it and behind it do not count. */
    private static void inTheMidst() {
        ValueTexts x = Edges.known();
        int[] wants = {7, 2, 0, 3};
        for (int what = 0; what <= 3; what++) {
            EDGES.due("look(" + what + ")", x.look(what), wants[what]);
        }
        EDGES.allStays("behind it", x);
        x = Checks.holding("[5 6 R null 7 8 R]");
        x.item(1);
        for (int what = 0; what <= 3; what++) {
            EDGES.due("look(" + what + ") of null between refs", x.look(what), what == 3 ? 1 : 0);
        }
        x = Checks.holding("<</one(two)/three/four/five[7]/six<</eight 9>>>>");
        for (int k = 0; k <= 3; k++) {
            x.top();
            x.item(k);
            EDGES.due("look(2) of item " + k + ", which is no ref", x.look(2), 0);
        }
    }
}
