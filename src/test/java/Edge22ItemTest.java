/** Promise 7: 'item k, from 0 ...: its KIND. NONE (it stays) if there is none.' */
final class Edge22ItemTest {
    private static final Edges EDGES = new Edges("item");

    public static void main(String[] args) {
        for (int count : new int[] {0, 1, 2, 59, 60}) {
            firstAndLast("[" + ints(count, "") + "]", count);
        }
        for (int count : new int[] {0, 1, 2, 29, 30}) {
            firstAndLast("<<" + ints(count, "/n") + ">>", count);
        }
        noneStays();
        othersHaveNone();
        withoutAValue();
        EDGES.finish();
    }

    /** The numbers from 0, each behind a name if there is one. */
    private static String ints(int count, String name) {
        StringBuilder text = new StringBuilder();
        for (int i = 0; i < count; i++) {
            text.append(name.isEmpty() ? "" : name + i).append(' ').append(i);
        }
        return text.toString();
    }

    private static void firstAndLast(String text, int count) {
        for (int k : new int[] {-1, -2, count, count + 1, 60, 1000, Edges.LEAST, Edges.GREATEST}) {
            ValueTexts x = Checks.holding(text);
            int kind = x.look(0);
            EDGES.due("item(" + k + ") of " + text, x.item(k), ValueTexts.NONE);
            EDGES.due("look(0)", x.look(0), kind);
            EDGES.due("look(1)", x.look(1), count);
        }
        for (int k = 0; k < count; k++) {
            ValueTexts x = Checks.holding(text);
            EDGES.due("item(" + k + ") of " + text, x.item(k), 3);
            EDGES.due("look(1)", x.look(1), k);
        }
    }

    private static void noneStays() {
        for (int k : new int[] {-1, 2, Edges.LEAST, Edges.GREATEST}) {
            ValueTexts x = Edges.known();
            EDGES.due("item(" + k + ")", x.item(k), ValueTexts.NONE);
            EDGES.allStays("behind it", x);
        }
        ValueTexts x = Edges.known();
        EDGES.due("item(1)", x.item(1), 3);
        EDGES.shows("behind it", x, Edges.KNOWN_OUT, "2", Edges.KNOWN_VALUE, Edges.KNOWN_TAPE);
    }

    /** A number or a length is not a count of items, and what lies beside the point is not in it. */
    private static void othersHaveNone() {
        String[] texts = {"null", "true", "false", "3", "/four", "<05050505>", "[]", "<<>>", "8 9 R"};
        for (String text : texts) {
            ValueTexts x = Checks.holding("[" + text + "[1 2 3]/after]");
            x.item(0);
            for (int k : new int[] {0, 1, 2, -1, Edges.LEAST, Edges.GREATEST}) {
                EDGES.due("item(" + k + ") of " + text, x.item(k), ValueTexts.NONE);
            }
            EDGES.shows("behind it", x, "", text, Checks.written("[" + text + "[1 2 3]/after]"), "");
        }
    }

    private static void withoutAValue() {
        ValueTexts x = new ValueTexts();
        Checks.tape(x, "[1 2]");
        for (int k : new int[] {0, 1, -1, Edges.LEAST, Edges.GREATEST}) {
            EDGES.due("item(" + k + ")", x.item(k), ValueTexts.NONE);
        }
        EDGES.shows("behind it", x, "", null, null, "[1 2]");
    }
}
