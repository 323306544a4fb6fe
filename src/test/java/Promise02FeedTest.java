/** Promise 2: feed brings twenty bytes, the highest of each four first, or answers FULL. */
final class Promise02FeedTest {
    private static final Checks CHECKS = new Checks("promise 2");

    public static void main(String[] args) {
        bytesComeInTheirOrder();
        everyByteComesAsItIs();
        fullTapeStays();
        cutTapeGoesOn();
        CHECKS.finish();
    }

    private static void bytesComeInTheirOrder() {
        ValueTexts x = new ValueTexts();
        CHECKS.due("feed", x.feed(0x28616263, 0x64656667, 0x68696a6b, 0x6c6d6e6f, 0x70717229), 20);
        CHECKS.due("read()", x.read(), 5);
        CHECKS.due("look(1)", x.look(1), 18);
        x.bytes(0);
        CHECKS.due("the bytes", Checks.out(x), "abcdefghijklmnopqr");
    }

    private static void everyByteComesAsItIs() {
        ValueTexts x = new ValueTexts();
        x.feed(0x28ff807f, 0x00010a0d, 0xfffefdfc, 0x80000000, 0x09202129);
        CHECKS.due("read() of bytes of all sizes", x.read(), 5);
        x.write();
        CHECKS.due("written", Checks.out(x), "<ff807f00010a0dfffefdfc80000000092021>");
    }

    private static void fullTapeStays() {
        ValueTexts x = new ValueTexts();
        x.feed(0x31202020, 0x20202020, 0x20202020, 0x20202020, 0x20202020);
        for (int i = 2; i <= 50; i++) {
            CHECKS.due("feed " + i, x.feed(0x20202020, 0x20202020, 0x20202020, 0x20202020, 0x20202020), 20 * i);
        }
        CHECKS.due("feed 51", x.feed(0x32323232, 0, 0, 0, 0), ValueTexts.FULL);
        CHECKS.due("feed 52", x.feed(0x32323232, 0, 0, 0, 0), ValueTexts.FULL);
        CHECKS.due("end(1001)", x.end(1001), ValueTexts.REFUSED);
        CHECKS.due("end(1000)", x.end(1000), 1000);
        CHECKS.due("read()", x.read(), 3);
        CHECKS.due("look(1)", x.look(1), 1);
        CHECKS.due("feed behind read", x.feed(0, 0, 0, 0, 0), 20);
    }

    private static void cutTapeGoesOn() {
        ValueTexts x = new ValueTexts();
        Checks.tape(x, " ".repeat(981));
        CHECKS.due("feed onto 981", x.feed(0, 0, 0, 0, 0), ValueTexts.FULL);
        CHECKS.due("end(981)", x.end(981), 981);
        CHECKS.due("end(980)", x.end(980), 980);
        CHECKS.due("feed onto 980", x.feed(0, 0, 0, 0, 0), 1000);
        CHECKS.due("feed onto 1000", x.feed(0, 0, 0, 0, 0), ValueTexts.FULL);

        x = new ValueTexts();
        x.feed(0x31323334, 0, 0, 0, 0);
        x.end(3);
        CHECKS.due("feed onto 3", x.feed(0x35363738, 0x20202020, 0x20202020, 0x20202020, 0x20202020), 23);
        CHECKS.due("read()", x.read(), 3);
        CHECKS.due("look(1)", x.look(1), 1235678);
    }
}
