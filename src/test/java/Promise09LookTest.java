/** Promise 9: look tells the kind, the number, a REF's other number and how many values the point is. */
final class Promise09LookTest {
    private static final Checks CHECKS = new Checks("promise 9");

    public static void main(String[] args) {
        looks("null", 0, 0, 0, 1);
        looks("true", 1, 0, 0, 1);
        looks("false", 2, 0, 0, 1);
        looks("-12", 3, -12, 0, 1);
        looks("-0", 3, 0, 0, 1);
        looks("999999999", 3, 999999999, 0, 1);
        looks("-999999999", 3, -999999999, 0, 1);
        looks("/abc", 4, 3, 0, 1);
        looks("/", 4, 0, 0, 1);
        looks("(a\\)\\101)", 5, 3, 0, 1);
        looks("()", 5, 0, 0, 1);
        looks("<0102>", 5, 2, 0, 1);
        looks("[]", 6, 0, 0, 1);
        looks("[/a(b)3 4 R[5 6]]", 6, 4, 0, 7);
        looks("[[[[[[[[]]]]]]]]", 6, 1, 0, 8);
        looks("<<>>", 7, 0, 0, 1);
        looks("<</a/b/c[1 2]/d<</e 3>>>>", 7, 3, 0, 7);
        looks("12 345 R", 8, 12, 345, 1);
        looks("299 65535 R", 8, 299, 65535, 1);
        looks("0 0 R", 8, 0, 0, 1);
        looks("[" + Checks.times("[" + Checks.times("/", 60) + "]", 16) + "]", 6, 16, 0, 977);
        looks(Checks.dictOf(30), 7, 30, 0, 31);
        ofThePointInIt();
        wrongWhat();
        CHECKS.finish();
    }

    private static void looks(String text, int kind, int number, int other, int values) {
        ValueTexts x = Checks.holding("(what was before)");
        Checks.reading(x, text);
        CHECKS.due("look(0) of " + text, x.look(0), kind);
        CHECKS.due("look(1) of " + text, x.look(1), number);
        CHECKS.due("look(2) of " + text, x.look(2), other);
        CHECKS.due("look(3) of " + text, x.look(3), values);
    }

    private static void ofThePointInIt() {
        ValueTexts x = Checks.holding("[(strings)/names 7 8 R<</a<</b 1/c[2 3]>>/d 4>>5]");
        x.item(2);
        CHECKS.due("look(2) of the ref", x.look(2), 8);
        x.top();
        x.item(1);
        CHECKS.due("look(2) of the name", x.look(2), 0);
        x.top();
        x.item(3);
        CHECKS.due("look(3) of the dict", x.look(3), 7);
        x.item(0);
        CHECKS.due("look(3) of a", x.look(3), 5);
        x.item(1);
        CHECKS.due("look(3) of c", x.look(3), 3);
        x.item(1);
        CHECKS.due("look(3) of 3", x.look(3), 1);
    }

    private static void wrongWhat() {
        for (ValueTexts x : new ValueTexts[] {new ValueTexts(), Checks.holding("1"), Checks.holding("[1]")}) {
            for (int what : new int[] {-1, 4, 5, 100, Integer.MIN_VALUE, Integer.MAX_VALUE}) {
                CHECKS.due("look(" + what + ")", x.look(what), ValueTexts.REFUSED);
            }
        }
        for (int what = 0; what <= 3; what++) {
            CHECKS.due("look(" + what + ") without a point", new ValueTexts().look(what), ValueTexts.NONE);
        }
    }
}
