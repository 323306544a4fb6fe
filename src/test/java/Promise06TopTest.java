/** Promise 6: top makes the value the point and answers its kind. */
final class Promise06TopTest {
    public static void main(String[] args) {
        Checks checks = new Checks("promise 6");
        checks.due("top() without a value", new ValueTexts().top(), ValueTexts.NONE);
        ValueTexts broken = new ValueTexts();
        Checks.reading(broken, "[1");
        checks.due("top() behind a broken text", broken.top(), ValueTexts.NONE);

        String[] texts = {"null", "true", "false", "1", "/a", "(a)", "[1]", "<</a 1>>", "1 0 R"};
        for (int kind = 0; kind < texts.length; kind++) {
            checks.due("top() of " + texts[kind], Checks.holding(texts[kind]).top(), kind);
        }

        ValueTexts x = Checks.holding("[[[7]]]");
        x.item(0);
        x.item(0);
        x.item(0);
        checks.due("look(0) deep in it", x.look(0), 3);
        checks.due("top()", x.top(), 6);
        checks.due("look(3) of the value", x.look(3), 4);
        checks.due("top() again", x.top(), 6);
        Checks.tape(x, "8");
        x.top();
        checks.due("end(1), the tape stays", x.end(1), 1);
        checks.finish();
    }
}
