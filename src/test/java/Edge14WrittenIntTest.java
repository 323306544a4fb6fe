/** WRITTEN: 'ints (no 0s in front; -0 is 0).' */
final class Edge14WrittenIntTest {
    private static final Edges EDGES = new Edges("written ints");

    public static void main(String[] args) {
        zeros();
        zerosInFront();
        allLengths();
        inOthers();
        EDGES.finish();
    }

    private static void zeros() {
        for (int digits = 1; digits <= 9; digits++) {
            EDGES.good("0".repeat(digits), 3, "0");
            EDGES.good("-" + "0".repeat(digits), 3, "0");
        }
        EDGES.due("look(1) of -0", Checks.holding("-0").look(1), 0);
    }

    private static void zerosInFront() {
        for (int zeros = 0; zeros <= 8; zeros++) {
            EDGES.good("0".repeat(zeros) + "5", 3, "5");
            EDGES.good("-" + "0".repeat(zeros) + "5", 3, "-5");
        }
        EDGES.good("000000010", 3, "10");
        EDGES.good("-010203040", 3, "-10203040");
    }

    private static void allLengths() {
        for (int power = 1; power <= 100000000; power *= 10) {
            for (int number : new int[] {power - 1, power, power + 1, 9 * power, 10 * (power / 10) + 9}) {
                EDGES.good(Integer.toString(number), 3, Integer.toString(number));
                EDGES.good(Integer.toString(-number), 3, Integer.toString(-number));
            }
        }
        EDGES.good("999999999", 3, "999999999");
        EDGES.good("-999999999", 3, "-999999999");
        EDGES.good("100000000", 3, "100000000");
    }

    private static void inOthers() {
        EDGES.good("[-0 00 -007 010]", 6, "[0 0 -7 10]");
        EDGES.good("<</00 -00/-0 001>>", 7, "<</00 0 /-0 1>>");
        EDGES.good("007 000 R", 8, "7 0 R");
        EDGES.good("0299 065535 R", 8, "299 65535 R");
    }
}
