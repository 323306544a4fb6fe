/** Promise 11: 'Byte i of OUT; -1: how many it has. NONE.' */
final class Edge27OctetTest {
    private static final Edges EDGES = new Edges("octet");

    public static void main(String[] args) {
        for (int length : new int[] {0, 1, 2, 99, 100}) {
            firstAndLast(length);
        }
        everyByte();
        shorterAgain();
        nothingChanges();
        EDGES.finish();
    }

    private static void firstAndLast(int length) {
        ValueTexts x = Checks.holding("(" + "z".repeat(length) + ")");
        x.bytes(0);
        EDGES.due("octet(-1) of " + length, x.octet(-1), length);
        for (int i = 0; i < length; i++) {
            EDGES.due("octet(" + i + ") of " + length, x.octet(i), 'z');
        }
        for (int i : new int[] {-2, -3, length, length + 1, 1999, 2000, 2001, Edges.LEAST, Edges.LEAST + 1, Edges.GREATEST}) {
            EDGES.due("octet(" + i + ") of " + length, x.octet(i), ValueTexts.NONE);
        }
    }

    private static void everyByte() {
        for (int b = 0; b <= 255; b++) {
            ValueTexts x = Checks.holding(String.format("<%02x>", b));
            x.bytes(0);
            EDGES.due("octet(0)", x.octet(0), b);
        }
    }

    private static void shorterAgain() {
        ValueTexts x = Checks.holding("[(abc)/d()]");
        EDGES.due("write()", x.write(), 16);
        EDGES.due("octet(15)", x.octet(15), ']');
        EDGES.due("octet(16)", x.octet(16), ValueTexts.NONE);
        x.item(0);
        EDGES.due("bytes(0)", x.bytes(0), 3);
        EDGES.due("octet(2)", x.octet(2), 'c');
        EDGES.due("octet(3)", x.octet(3), ValueTexts.NONE);
        x.top();
        x.item(2);
        EDGES.due("bytes(0) of ()", x.bytes(0), 0);
        EDGES.due("octet(-1)", x.octet(-1), 0);
        EDGES.due("octet(0)", x.octet(0), ValueTexts.NONE);
    }

    private static void nothingChanges() {
        for (int i : new int[] {0, 2, 3, -1, -2, Edges.LEAST, Edges.GREATEST}) {
            ValueTexts x = Edges.known();
            x.octet(i);
            EDGES.allStays("behind octet(" + i + ")", x);
        }
    }
}
