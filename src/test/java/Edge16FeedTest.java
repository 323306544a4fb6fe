/** Promise 2: 'how many it has; FULL if it would have more than 1000.' */
final class Edge16FeedTest {
    private static final Edges EDGES = new Edges("feed");
    private static final int BLANKS = 0x20202020;

    public static void main(String[] args) {
        for (int size : new int[] {0, 1, 19, 20, 500, 979, 980, 981, 982, 999, 1000}) {
            onto(size);
        }
        fullLeavesAll();
        greatestAndLeast();
        eachPlace();
        EDGES.finish();
    }

    private static void onto(int size) {
        ValueTexts x = new ValueTexts();
        Checks.tape(x, " ".repeat(size));
        boolean room = size <= 980;
        EDGES.due("feed onto " + size, x.feed(BLANKS, BLANKS, BLANKS, BLANKS, BLANKS), room ? size + 20 : ValueTexts.FULL);
        int now = room ? size + 20 : size;
        EDGES.due("end(" + (now + 1) + ")", x.end(now + 1), ValueTexts.REFUSED);
        EDGES.due("end(" + now + ")", x.end(now), now);
        if (now > 0) {
            EDGES.due("end(" + (now - 1) + ")", x.end(now - 1), now - 1);
        }
    }

    private static void fullLeavesAll() {
        for (int size = 981; size <= 1000; size++) {
            ValueTexts x = Edges.knownWithoutTape();
            Checks.tape(x, Edges.KNOWN_TAPE + " ".repeat(size - Edges.KNOWN_TAPE.length()));
            EDGES.due("feed onto " + size, x.feed(0x5d5d5d5d, 0, 0, 0, 0), ValueTexts.FULL);
            EDGES.due("feed once more", x.feed(Edges.LEAST, -1, -1, -1, Edges.GREATEST), ValueTexts.FULL);
            EDGES.due("end(" + size + ")", x.end(size), size);
            EDGES.due("end for the text alone", x.end(Edges.KNOWN_TAPE.length()), Edges.KNOWN_TAPE.length());
            EDGES.allStays("behind it", x);
        }
    }

    private static void greatestAndLeast() {
        ValueTexts x = new ValueTexts();
        EDGES.due("feed", x.feed(0x28000000, Edges.LEAST, Edges.GREATEST, -1, 0x00000129), 20);
        EDGES.due("read()", x.read(), 5);
        x.write();
        EDGES.due("OUT", Checks.out(x), "<000000800000007fffffffffffffff000001>");
    }

    /** Each of the twenty bytes has its place: the highest of each four first. */
    private static void eachPlace() {
        for (int place = 0; place < 20; place++) {
            StringBuilder text = new StringBuilder(" ".repeat(20));
            text.setCharAt(place, '7');
            int[] words = {BLANKS, BLANKS, BLANKS, BLANKS, BLANKS};
            words[place / 4] ^= ('7' ^ ' ') << 8 * (3 - place % 4);
            ValueTexts x = new ValueTexts();
            x.feed(words[0], words[1], words[2], words[3], words[4]);
            EDGES.due("end just before byte " + place, x.end(place), place);
            EDGES.due("read()", x.read(), ValueTexts.BROKEN);
            x.feed(words[0], words[1], words[2], words[3], words[4]);
            EDGES.due("end just behind byte " + place, x.end(place + 1), place + 1);
            EDGES.due("read()", x.read(), 3);
        }
    }
}
