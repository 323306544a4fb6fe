/** Promise 1: a new object has no value; its tape and OUT have no bytes. */
final class Promise01NewObjectTest {
    public static void main(String[] args) {
        Checks checks = new Checks("promise 1");
        ValueTexts x = new ValueTexts();
        checks.due("write()", x.write(), ValueTexts.NONE);
        checks.due("top()", x.top(), ValueTexts.NONE);
        checks.due("item(0)", x.item(0), ValueTexts.NONE);
        checks.due("find()", x.find(), ValueTexts.NONE);
        for (int what = 0; what <= 3; what++) {
            checks.due("look(" + what + ")", x.look(what), ValueTexts.NONE);
        }
        checks.due("bytes(0)", x.bytes(0), ValueTexts.NONE);
        checks.due("octet(-1)", x.octet(-1), 0);
        checks.due("octet(0)", x.octet(0), ValueTexts.NONE);
        checks.due("end(0)", x.end(0), 0);
        checks.due("end(1)", x.end(1), ValueTexts.REFUSED);

        ValueTexts one = Checks.holding("[1 2]");
        ValueTexts other = new ValueTexts();
        checks.due("top() of another new object", other.top(), ValueTexts.NONE);
        checks.due("top() of the first", one.top(), 6);

        checks.due("REFUSED", ValueTexts.REFUSED, -1);
        checks.due("NONE", ValueTexts.NONE, -2);
        checks.due("FULL", ValueTexts.FULL, -3);
        checks.due("BROKEN", ValueTexts.BROKEN, -4);
        checks.finish();
    }
}
