/** Promise 7: item makes an item of an array, or the value of a name of a dict, the point. */
final class Promise07ItemTest {
    private static final Checks CHECKS = new Checks("promise 7");

    public static void main(String[] args) {
        CHECKS.due("item(0) without a value", new ValueTexts().item(0), ValueTexts.NONE);
        kindsOfItems();
        deepWays();
        outside();
        othersHaveNone();
        CHECKS.finish();
    }

    private static void kindsOfItems() {
        String items = "null true false 3/four(five)[6]<</seven 7>>8 8 R";
        String[] words = items.replace("/four(five)[6]<</seven 7>>", " /four (five) [6] <</seven@7>> ")
                .replace("8 8 R", "8@8@R").split(" ");
        StringBuilder dict = new StringBuilder("<<");
        for (int k = 0; k <= 8; k++) {
            ValueTexts x = Checks.holding("[" + items + "]");
            CHECKS.due("item(" + k + ")", x.item(k), k);
            CHECKS.due("look(0)", x.look(0), k);
            dict.append("/k").append(k).append(' ').append(words[k].replace('@', ' '));
        }
        dict.append(">>");
        for (int k = 0; k <= 8; k++) {
            ValueTexts x = Checks.holding(dict.toString());
            CHECKS.due("item(" + k + ") of " + dict, x.item(k), k);
        }
    }

    private static void deepWays() {
        ValueTexts x = Checks.holding("[[1[2 3]4]<</a[5 6]/b<</c 7/d[8]>>/e 9>>10]");
        int[][] ways = {{0, 0, 1}, {0, 1, 0, 2}, {0, 1, 1, 3}, {0, 2, 4}, {1, 0, 0, 5}, {1, 0, 1, 6}, {1, 1, 0, 7},
            {1, 1, 1, 0, 8}, {1, 2, 9}, {2, 10}};
        for (int[] way : ways) {
            x.top();
            for (int i = 0; i < way.length - 1; i++) {
                x.item(way[i]);
            }
            CHECKS.due("look(1) at the way's end", x.look(1), way[way.length - 1]);
        }
    }

    private static void outside() {
        for (String text : new String[] {"[1 2 3]", "<</a 1/b 2/c 3>>"}) {
            ValueTexts x = Checks.holding(text);
            for (int k : new int[] {-1, 3, 4, 1000, Integer.MIN_VALUE, Integer.MAX_VALUE}) {
                CHECKS.due("item(" + k + ") of " + text, x.item(k), ValueTexts.NONE);
                CHECKS.due("look(1), the point stays", x.look(1), 3);
            }
            CHECKS.due("item(2)", x.item(2), 3);
            CHECKS.due("item(0) of an INT", x.item(0), ValueTexts.NONE);
            CHECKS.due("look(1)", x.look(1), 3);
        }
        CHECKS.due("item(0) of []", Checks.holding("[]").item(0), ValueTexts.NONE);
        CHECKS.due("item(0) of <<>>", Checks.holding("<<>>").item(0), ValueTexts.NONE);
        CHECKS.due("item(59)", Checks.holding("[" + Checks.times("/a", 60) + "]").item(59), 4);
        ValueTexts x = Checks.holding("[[]7]");
        CHECKS.due("item(0) of [[]7]", x.item(0), 6);
        CHECKS.due("item(0) of the empty array in it", x.item(0), ValueTexts.NONE);
        CHECKS.due("look(1)", x.look(1), 0);
    }

    private static void othersHaveNone() {
        for (String text : new String[] {"null", "true", "false", "5", "/abc", "(abc)", "5 5 R"}) {
            ValueTexts x = Checks.holding(text);
            int kind = x.look(0);
            CHECKS.due("item(0) of " + text, x.item(0), ValueTexts.NONE);
            CHECKS.due("item(1) of " + text, x.item(1), ValueTexts.NONE);
            CHECKS.due("look(0), the point stays", x.look(0), kind);
        }
    }
}
