/** 'THE TAPE has bytes, none at first, at most 1000; calls that read it empty it.' */
final class Edge02TapeTest {
    private static final Edges EDGES = new Edges("the tape");

    public static void main(String[] args) {
        noneAtFirst();
        fullTapeIsReadToItsLastByte();
        readEmptiesIt();
        findEmptiesIt();
        othersLeaveIt();
        EDGES.finish();
    }

    private static void noneAtFirst() {
        EDGES.due("end(0)", new ValueTexts().end(0), 0);
        EDGES.due("end(1)", new ValueTexts().end(1), ValueTexts.REFUSED);
        EDGES.due("read()", new ValueTexts().read(), ValueTexts.BROKEN);
        EDGES.due("feed", new ValueTexts().feed(0, 0, 0, 0, 0), 20);
    }

    private static void fullTapeIsReadToItsLastByte() {
        String full = "[" + "(abcdefgh)".repeat(59) + "(" + "z".repeat(100) + ")" + " ".repeat(306) + "]";
        EDGES.due("the text's length", full.length(), 1000);
        EDGES.reads(full, 6);
        EDGES.reads(full.substring(0, 999), ValueTexts.BROKEN);
        EDGES.reads(full.substring(0, 998) + "]", 6);
        EDGES.reads(full.substring(0, 999) + "[", ValueTexts.BROKEN);

        ValueTexts x = new ValueTexts();
        Checks.tape(x, full);
        EDGES.due("end(1001)", x.end(1001), ValueTexts.REFUSED);
        EDGES.due("feed", x.feed(0, 0, 0, 0, 0), ValueTexts.FULL);
        EDGES.due("end(1000)", x.end(1000), 1000);
        EDGES.due("read()", x.read(), 6);
        x.item(59);
        EDGES.due("look(1) of the last item", x.look(1), 100);
    }

    private static void readEmptiesIt() {
        ValueTexts x = Edges.known();
        EDGES.due("read() of a good text", x.read(), 6);
        EDGES.shows("behind it", x, Edges.KNOWN_OUT, Edges.KNOWN_TAPE, Edges.KNOWN_TAPE, "");

        x = Edges.known();
        x.end(Edges.KNOWN_TAPE.length() - 1);
        EDGES.due("read() of a broken text", x.read(), ValueTexts.BROKEN);
        EDGES.allStaysButTheTapeIsEmpty("behind it", x);

        x = new ValueTexts();
        Checks.tape(x, "[".repeat(1000));
        EDGES.due("read() of a full tape", x.read(), ValueTexts.BROKEN);
        EDGES.due("feed behind it", x.feed(0x31202020, 0, 0, 0, 0), 20);
        EDGES.due("end(4)", x.end(4), 4);
        EDGES.due("read(), with nothing of the full tape before it", x.read(), 3);
    }

    private static void findEmptiesIt() {
        ValueTexts x = Edges.known();
        EDGES.due("find() of what is no name", x.find(), ValueTexts.NONE);
        EDGES.allStaysButTheTapeIsEmpty("behind it", x);

        x = Edges.knownWithoutTape();
        EDGES.due("find() of a name", Checks.finding(x, "old"), 3);
        EDGES.shows("behind it", x, Edges.KNOWN_OUT, "2", Edges.KNOWN_VALUE, "");

        x = new ValueTexts();
        EDGES.due("find() without a value", Checks.finding(x, "1"), ValueTexts.NONE);
        EDGES.shows("behind it", x, "", null, null, "");

        x = Edges.knownWithoutTape();
        Checks.tape(x, "a".repeat(1000));
        EDGES.due("find() of a full tape", x.find(), ValueTexts.NONE);
        EDGES.allStaysButTheTapeIsEmpty("behind it", x);
    }

    private static void othersLeaveIt() {
        ValueTexts x = Edges.known();
        x.write();
        x.item(0);
        x.top();
        x.item(2);
        x.item(5);
        x.look(0);
        x.look(9);
        x.bytes(0);
        x.octet(0);
        x.end(1000);
        x.end(-1);
        EDGES.shows("behind all the others", x, "b", "/b", Edges.KNOWN_VALUE, Edges.KNOWN_TAPE);
    }
}
