/** 'An object is used for at most 512 calls after it has been made; what later calls answer is free.' */
final class Edge01CallsTest {
    private static final Edges EDGES = new Edges("at most 512 calls");
    private static final int BLANKS = 0x20202020;

    /** The calls of the face, by these numbers, each with the answer that is due behind any number of fillers. */
    private static final int CALLS = 10;

    public static void main(String[] args) {
        for (int last = 0; last < CALLS; last++) {
            lastCallIsAsGoodAsTheFirst(last);
        }
        readsToTheLastCall();
        feedsToTheLastCall();
        laterCallsStillEnd();
        EDGES.finish();
    }

    private static void lastCallIsAsGoodAsTheFirst(int last) {
        ValueTexts x = new ValueTexts();
        Checks.reading(x, "<</a[1]>>");
        int made = 3;
        for (; made < Checks.MOST_CALLS - 1; made++) {
            EDGES.due("write() as call " + (made + 1), x.write(), 10);
        }
        String[] names = {"feed", "end(0)", "read()", "write()", "top()", "item(0)", "find()", "look(3)", "bytes(0)", "octet(2)"};
        int[] wants = {20, 0, ValueTexts.BROKEN, 10, 7, 6, ValueTexts.NONE, 3, 1, '/'};
        EDGES.due(names[last] + " as call 512", call(x, last), wants[last]);
    }

    private static int call(ValueTexts x, int number) {
        switch (number) {
            case 0:
                return x.feed(BLANKS, BLANKS, BLANKS, BLANKS, BLANKS);
            case 1:
                return x.end(0);
            case 2:
                return x.read();
            case 3:
                return x.write();
            case 4:
                return x.top();
            case 5:
                return x.item(0);
            case 6:
                return x.find();
            case 7:
                return x.look(3);
            case 8:
                return x.bytes(0);
            default:
                return x.octet(2);
        }
    }

    /** 170 texts of three calls each, good and broken ones in turn, and two calls more. */
    private static void readsToTheLastCall() {
        ValueTexts x = new ValueTexts();
        for (int i = 0; i < 170; i++) {
            boolean good = i % 2 == 1;
            EDGES.due("read() number " + i, Checks.reading(x, "[" + i + (good ? "]" : "[")), good ? 6 : ValueTexts.BROKEN);
        }
        EDGES.due("item(0) as call 511", x.item(0), 3);
        EDGES.due("look(1) as call 512", x.look(1), 169);
    }

    private static void feedsToTheLastCall() {
        ValueTexts x = new ValueTexts();
        for (int made = 1; made <= Checks.MOST_CALLS; made++) {
            int want = made <= 50 ? 20 * made : ValueTexts.FULL;
            EDGES.due("feed as call " + made, x.feed(BLANKS, BLANKS, BLANKS, BLANKS, BLANKS), want);
        }
    }

    /** Their answers are free, but no call may throw, so the test only has to come to its end. */
    private static void laterCallsStillEnd() {
        ValueTexts x = new ValueTexts();
        for (int made = 0; made < 4 * Checks.MOST_CALLS; made++) {
            call(x, made % CALLS);
        }
    }
}
