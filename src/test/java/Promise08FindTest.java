/** Promise 8: find makes the value of the name on the tape the point; the tape is empty then. */
final class Promise08FindTest {
    private static final Checks CHECKS = new Checks("promise 8");

    public static void main(String[] args) {
        everyName();
        noSuchName();
        noDict();
        theTapeIsEmptyThen();
        emptyName();
        CHECKS.finish();
    }

    private static void everyName() {
        for (int i = 0; i < 30; i++) {
            ValueTexts x = Checks.holding(Checks.dictOf(30));
            CHECKS.due("find() of k" + i, Checks.finding(x, "k" + i), 3);
            CHECKS.due("look(1)", x.look(1), i);
        }
        ValueTexts x = Checks.holding("<</a[1]/b<</a true/c(x)>>/abcdefghijklmnopqrst 1 0 R>>");
        CHECKS.due("find() of b", Checks.finding(x, "b"), 7);
        CHECKS.due("find() of a in b", Checks.finding(x, "a"), 1);
        x.top();
        CHECKS.due("find() of a", Checks.finding(x, "a"), 6);
        x.top();
        CHECKS.due("find() of the long name", Checks.finding(x, "abcdefghijklmnopqrst"), 8);
    }

    private static void noSuchName() {
        ValueTexts x = Checks.holding("<</ab 1/b<</c 2>>>>");
        for (String name : new String[] {"", "a", "abc", "AB", "/ab", "c", " ab", "ab ", "ab\0", "ba", "(ab)",
                Checks.times("ab", 500)}) {
            CHECKS.due("find() of " + Checks.shown(name), Checks.finding(x, name), ValueTexts.NONE);
            CHECKS.due("end(1), the tape is empty", x.end(1), ValueTexts.REFUSED);
            CHECKS.due("look(0), the point stays", x.look(0), 7);
            CHECKS.due("look(1)", x.look(1), 2);
        }
        CHECKS.due("find() of ab", Checks.finding(x, "ab"), 3);
    }

    private static void noDict() {
        for (String text : new String[] {"null", "1", "/a", "(a)", "[/a 1]", "[<</a 1>>]", "1 0 R"}) {
            ValueTexts x = Checks.holding(text);
            int kind = x.look(0);
            CHECKS.due("find() of a in " + text, Checks.finding(x, "a"), ValueTexts.NONE);
            CHECKS.due("look(0), the point stays", x.look(0), kind);
        }
    }

    private static void theTapeIsEmptyThen() {
        ValueTexts x = new ValueTexts();
        CHECKS.due("find() without a value", Checks.finding(x, "a"), ValueTexts.NONE);
        CHECKS.due("end(1)", x.end(1), ValueTexts.REFUSED);
        Checks.reading(x, "<</a 1>>");
        CHECKS.due("find() of a", Checks.finding(x, "a"), 3);
        CHECKS.due("end(1)", x.end(1), ValueTexts.REFUSED);
        CHECKS.due("find() of a in an INT", Checks.finding(x, "a"), ValueTexts.NONE);
        CHECKS.due("end(1)", x.end(1), ValueTexts.REFUSED);
    }

    private static void emptyName() {
        ValueTexts x = Checks.holding("<</a 1/ 2>>");
        CHECKS.due("find() of nothing", x.find(), 3);
        CHECKS.due("look(1)", x.look(1), 2);
    }
}
