/** Promise 3: end cuts the tape to its first n bytes, or refuses. */
final class Promise03EndTest {
    public static void main(String[] args) {
        Checks checks = new Checks("promise 3");
        ValueTexts x = new ValueTexts();
        checks.due("end(1) of none", x.end(1), ValueTexts.REFUSED);
        checks.due("end(0) of none", x.end(0), 0);
        x.feed(0x31323334, 0x35363738, 0x39000000, 0, 0);
        checks.due("end(21)", x.end(21), ValueTexts.REFUSED);
        checks.due("end(-1)", x.end(-1), ValueTexts.REFUSED);
        checks.due("end(lowest)", x.end(Integer.MIN_VALUE), ValueTexts.REFUSED);
        checks.due("end(highest)", x.end(Integer.MAX_VALUE), ValueTexts.REFUSED);
        checks.due("end(20)", x.end(20), 20);
        checks.due("end(9)", x.end(9), 9);
        checks.due("end(10)", x.end(10), ValueTexts.REFUSED);
        checks.due("end(4)", x.end(4), 4);
        checks.due("read()", x.read(), 3);
        checks.due("look(1)", x.look(1), 1234);
        checks.due("end(1) behind read", x.end(1), ValueTexts.REFUSED);
        x.feed(0x31323334, 0, 0, 0, 0);
        checks.due("end(0)", x.end(0), 0);
        checks.due("read() of nothing", x.read(), ValueTexts.BROKEN);
        checks.finish();
    }
}
