/** Promise 11: octet tells a byte of OUT, or for -1 how many it has. */
final class Promise11OctetTest {
    public static void main(String[] args) {
        Checks checks = new Checks("promise 11");
        ValueTexts x = new ValueTexts();
        checks.due("octet(-1) of none", x.octet(-1), 0);
        checks.due("octet(0) of none", x.octet(0), ValueTexts.NONE);

        Checks.reading(x, "(\\000\\177\\200\\377)");
        checks.due("octet(-1), read leaves OUT", x.octet(-1), 0);
        x.bytes(0);
        checks.due("octet(-1)", x.octet(-1), 4);
        int[] want = {0, 127, 128, 255};
        for (int i = 0; i < want.length; i++) {
            checks.due("octet(" + i + ")", x.octet(i), want[i]);
        }
        for (int i : new int[] {-2, 4, 5, 2000, 2001, Integer.MIN_VALUE, Integer.MAX_VALUE}) {
            checks.due("octet(" + i + ")", x.octet(i), ValueTexts.NONE);
        }

        x.write();
        checks.due("octet(-1) behind write", x.octet(-1), 10);
        checks.due("octet(9)", x.octet(9), '>');
        Checks.reading(x, "/a");
        x.bytes(0);
        checks.due("octet(-1) behind bytes", x.octet(-1), 1);
        checks.due("octet(0)", x.octet(0), 'a');
        checks.due("octet(1), nothing of the longer OUT is left", x.octet(1), ValueTexts.NONE);

        ValueTexts y = Checks.holding("[" + Checks.times("(" + Checks.times("a", 100) + ")", 9) + "]");
        checks.due("write() of a long one", y.write(), 1828);
        checks.due("octet(1827)", y.octet(1827), ']');
        checks.due("octet(1828)", y.octet(1828), ValueTexts.NONE);
        checks.finish();
    }
}
