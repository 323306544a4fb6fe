/** 'An INT: a WORD of 1 to 9 digits, with a - before or not. A number without a sign: an INT without -.' */
final class Edge05IntTest {
    private static final Edges EDGES = new Edges("ints");

    public static void main(String[] args) {
        howManyDigits();
        leastAndGreatest();
        digitsAlone();
        oneSignOrNone();
        withoutASign();
        EDGES.finish();
    }

    private static void howManyDigits() {
        for (int digits = 0; digits <= 12; digits++) {
            for (String text : new String[] {"1".repeat(digits), "-" + "1".repeat(digits), "0".repeat(digits), "-" + "0".repeat(digits)}) {
                if (digits >= 1 && digits <= 9) {
                    EDGES.good(text, 3, Integer.toString(Integer.parseInt(text)));
                } else {
                    EDGES.bad(text);
                }
            }
        }
        EDGES.bad("[1234567890]");
        EDGES.bad("<</a -1234567890>>");
        EDGES.bad("2147483647");
        EDGES.bad("4294967297");
    }

    private static void leastAndGreatest() {
        EDGES.due("look(1) of the greatest", Checks.holding("999999999").look(1), 999999999);
        EDGES.due("look(1) of the least", Checks.holding("-999999999").look(1), -999999999);
        EDGES.due("look(1) of -1", Checks.holding("-1").look(1), -1);
        EDGES.due("look(1) of -2, which is no NONE", Checks.holding("-2").look(1), -2);
    }

    private static void digitsAlone() {
        for (int b = 0; b <= 255; b++) {
            char c = (char) b;
            boolean digit = b >= '0' && b <= '9';
            EDGES.reads("1" + c + "1", digit ? 3 : ValueTexts.BROKEN);
            EDGES.reads("-" + c, digit ? 3 : ValueTexts.BROKEN);
        }
    }

    private static void oneSignOrNone() {
        for (String text : new String[] {"-", "--1", "+1", "+0", "-+1", "1-", "1-1", "- 1", "-\n1", "[- 1]", "-null"}) {
            EDGES.bad(text);
        }
    }

    /** Only the numbers of a REF must be without one. */
    private static void withoutASign() {
        EDGES.good("0 0 R", 8, "0 0 R");
        EDGES.bad("-0 0 R");
        EDGES.bad("0 -0 R");
        EDGES.bad("-1 1 R");
        EDGES.bad("1 -1 R");
        EDGES.good("[-1 1 1 R]", 6, "[-1 1 1 R]");
    }
}
