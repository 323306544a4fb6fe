/** Promise 3: 'n; REFUSED if it has less, or n is below 0.' */
final class Edge17EndTest {
    private static final Edges EDGES = new Edges("end");

    public static void main(String[] args) {
        for (int size : new int[] {0, 1, 19, 20, 21, 999, 1000}) {
            ofATapeOf(size);
        }
        refusedLeavesAll();
        cutToTheFirst();
        EDGES.finish();
    }

    private static void ofATapeOf(int size) {
        ValueTexts x = new ValueTexts();
        Checks.tape(x, " ".repeat(size));
        for (int n : new int[] {size + 1, size + 20, 1001, Edges.GREATEST, -1, -2, -size - 1, Edges.LEAST, Edges.LEAST + 1}) {
            EDGES.due("end(" + n + ") of " + size, x.end(n), ValueTexts.REFUSED);
        }
        EDGES.due("end(" + size + ") of all", x.end(size), size);
        EDGES.due("end(" + size + ") again", x.end(size), size);
        if (size > 0) {
            EDGES.due("end of one less", x.end(size - 1), size - 1);
            EDGES.due("end(" + size + ") then", x.end(size), ValueTexts.REFUSED);
        }
        EDGES.due("end(0)", x.end(0), 0);
        EDGES.due("end(0) again", x.end(0), 0);
        EDGES.due("end(1) then", x.end(1), ValueTexts.REFUSED);
        EDGES.due("feed then", x.feed(0, 0, 0, 0, 0), 20);
    }

    private static void refusedLeavesAll() {
        int size = Edges.KNOWN_TAPE.length();
        for (int n : new int[] {-1, Edges.LEAST, size + 1, Edges.GREATEST}) {
            ValueTexts x = Edges.known();
            EDGES.due("end(" + n + ")", x.end(n), ValueTexts.REFUSED);
            EDGES.allStays("behind it", x);
        }
        ValueTexts x = Edges.known();
        EDGES.due("end(0)", x.end(0), 0);
        EDGES.allStaysButTheTapeIsEmpty("behind it", x);
    }

    private static void cutToTheFirst() {
        for (int n = 1; n <= 9; n++) {
            ValueTexts x = new ValueTexts();
            Checks.tape(x, "123456789");
            EDGES.due("end(" + n + ")", x.end(n), n);
            EDGES.due("read()", x.read(), 3);
            EDGES.due("look(1)", x.look(1), Integer.parseInt("123456789".substring(0, n)));
        }
        ValueTexts x = new ValueTexts();
        Checks.tape(x, "123456789");
        x.end(2);
        x.feed(0x39202020, 0x20202020, 0x20202020, 0x20202020, 0x20202020);
        x.read();
        EDGES.due("look(1), what was cut does not come back", x.look(1), 129);
    }
}
