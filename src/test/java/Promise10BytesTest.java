/** Promise 10: bytes makes OUT the bytes of a name or string, or of the k-th name of a dict. */
final class Promise10BytesTest {
    private static final Checks CHECKS = new Checks("promise 10");
    private static final int[] SOME_KS = {0, 1, -1, 30, Integer.MIN_VALUE, Integer.MAX_VALUE};

    public static void main(String[] args) {
        CHECKS.due("bytes(0) without a value", new ValueTexts().bytes(0), ValueTexts.NONE);
        namesAndStrings();
        namesOfADict();
        nothingOfThat();
        CHECKS.finish();
    }

    private static void namesAndStrings() {
        for (int k : SOME_KS) {
            gives("/Name", k, "Name");
            gives("/", k, "");
            gives("()", k, "");
            gives("(a\\(\\377\\\\b)", k, "a(\u00ff\\b");
            gives("<00FF80>", k, "\0\u00ff\u0080");
        }
        String hundred = Checks.times("0123456789", 10);
        gives("(" + hundred + ")", 0, hundred);
        ValueTexts x = Checks.holding("[/first(second)/third]");
        x.item(1);
        CHECKS.due("bytes(0) of an item", x.bytes(0), 6);
        CHECKS.due("OUT", Checks.out(x), "second");
        CHECKS.due("look(0), the point stays", x.look(0), 5);
    }

    private static void gives(String text, int k, String want) {
        ValueTexts x = Checks.holding(text);
        CHECKS.due("bytes(" + k + ") of " + Checks.shown(text), x.bytes(k), want.length());
        CHECKS.due("its OUT", Checks.out(x), want);
    }

    private static void namesOfADict() {
        ValueTexts x = Checks.holding("<</one[1 2]/two<</in 3>>/three/value/ 4>>");
        String[] names = {"one", "two", "three", ""};
        for (int k = 0; k < names.length; k++) {
            CHECKS.due("bytes(" + k + ")", x.bytes(k), names[k].length());
            CHECKS.due("OUT", Checks.out(x), names[k]);
        }
        x.bytes(1);
        for (int k : new int[] {-1, 4, 100, Integer.MIN_VALUE, Integer.MAX_VALUE}) {
            CHECKS.due("bytes(" + k + ")", x.bytes(k), ValueTexts.NONE);
            CHECKS.due("OUT stays", Checks.out(x), "two");
        }
        CHECKS.due("look(0), the point stays", x.look(0), 7);
        CHECKS.due("bytes(29)", Checks.holding(Checks.dictOf(30)).bytes(29), 3);
        CHECKS.due("bytes(30)", Checks.holding(Checks.dictOf(30)).bytes(30), ValueTexts.NONE);
        CHECKS.due("bytes(0) of <<>>", Checks.holding("<<>>").bytes(0), ValueTexts.NONE);
    }

    private static void nothingOfThat() {
        for (String text : new String[] {"null", "true", "false", "12", "[/a(b)]", "[]", "1 2 R"}) {
            ValueTexts x = Checks.holding("/before");
            x.bytes(0);
            Checks.reading(x, text);
            for (int k : SOME_KS) {
                CHECKS.due("bytes(" + k + ") of " + text, x.bytes(k), ValueTexts.NONE);
            }
            CHECKS.due("OUT stays", Checks.out(x), "before");
        }
    }
}
