/** Promise 5: write makes OUT the WRITTEN point and answers how many bytes. */
final class Promise05WriteTest {
    private static final Checks CHECKS = new Checks("promise 5");

    public static void main(String[] args) {
        CHECKS.due("write() without a value", new ValueTexts().write(), ValueTexts.NONE);
        simpleOnes();
        arraysAndDicts();
        onlyThePoint();
        longOnes();
        writtenIsWrittenTheSame();
        noneLeavesOut();
        CHECKS.finish();
    }

    private static void simpleOnes() {
        CHECKS.writes(" null ", "null");
        CHECKS.writes("true", "true");
        CHECKS.writes("false", "false");
        CHECKS.writes("0", "0");
        CHECKS.writes("-0", "0");
        CHECKS.writes("-000", "0");
        CHECKS.writes("007", "7");
        CHECKS.writes("-0100", "-100");
        CHECKS.writes("123456789", "123456789");
        CHECKS.writes("-999999999", "-999999999");
        CHECKS.writes("100000000", "100000000");
        CHECKS.writes("/Name", "/Name");
        CHECKS.writes("/", "/");
        CHECKS.writes("()", "<>");
        CHECKS.writes("<>", "<>");
        CHECKS.writes("(Az\\\\09)", "<417a5c3039>");
        CHECKS.writes("<DEADbeef>", "<deadbeef>");
        CHECKS.writes("007\n\n00 R", "7 0 R");
        CHECKS.writes("299 65535 R", "299 65535 R");
        CHECKS.writes("0 0 R", "0 0 R");
        StringBuilder raw = new StringBuilder("(");
        StringBuilder want = new StringBuilder("<");
        for (int b = 128; b < 228; b++) {
            raw.append((char) b);
            want.append(String.format("%02x", b));
        }
        CHECKS.writes(raw.append(")").toString(), want.append(">").toString());
    }

    private static void arraysAndDicts() {
        CHECKS.writes("[ ]", "[]");
        CHECKS.writes("<< >>", "<<>>");
        CHECKS.writes("[1]", "[1]");
        CHECKS.writes("[/a/b(c)[]<<>>1 0 R\n-0]", "[/a /b <63> [] <<>> 1 0 R 0]");
        CHECKS.writes("<</a/b>>", "<</a /b>>");
        CHECKS.writes("<</b 1/a(x)/c[1]/d<</e null>>>>", "<</b 1 /a <78> /c [1] /d <</e null>>>>");
        CHECKS.writes("<</ 1>>", "<</ 1>>");
        CHECKS.writes(Checks.times("[", 8) + Checks.times("]", 8), Checks.times("[", 8) + Checks.times("]", 8));
        CHECKS.writes(Checks.times("<</a", 8) + " 1" + Checks.times(">>", 8),
                Checks.times("<</a ", 8) + "1" + Checks.times(">>", 8));
    }

    private static void onlyThePoint() {
        ValueTexts x = Checks.holding("<</a[1(b)<</c 2>>]/d 3>>");
        x.item(0);
        CHECKS.due("write() of a", x.write(), 17);
        CHECKS.due("a", Checks.out(x), "[1 <62> <</c 2>>]");
        x.item(2);
        x.write();
        CHECKS.due("the dict in a", Checks.out(x), "<</c 2>>");
        x.item(0);
        x.write();
        CHECKS.due("c", Checks.out(x), "2");
        x.top();
        x.write();
        CHECKS.due("the value", Checks.out(x), "<</a [1 <62> <</c 2>>] /d 3>>");
    }

    private static void longOnes() {
        String raw = "(" + Checks.times("a", 100) + ")";
        String hex = "<" + Checks.times("61", 100) + ">";
        CHECKS.writes("[" + Checks.times(raw, 9) + "]", "[" + Checks.times(hex + " ", 8) + hex + "]");
        String names = "[" + Checks.times("/", 60) + "]";
        String writtenNames = "[" + Checks.times("/ ", 59) + "/]";
        CHECKS.writes("[" + Checks.times(names, 16) + "]", "[" + Checks.times(writtenNames + " ", 15) + writtenNames + "]");
    }

    private static void writtenIsWrittenTheSame() {
        for (String text : new String[] {"<</a[1 2 0 R(x)]/b<</c<00>>>>>", "[true[false[null]]]", "-12", "/n", "<0a>"}) {
            String once = Checks.written(text);
            CHECKS.writes(once, once);
        }
    }

    private static void noneLeavesOut() {
        ValueTexts x = Checks.holding("/abc");
        x.write();
        CHECKS.due("write() again", x.write(), 4);
        CHECKS.due("OUT", Checks.out(x), "/abc");
    }
}
