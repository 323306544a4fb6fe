/** Promise 4: read makes the tape, if it is an OBJECT, the value and the point, and answers its kind, or BROKEN. */
final class Promise04ReadTest {
    private static final Checks CHECKS = new Checks("promise 4");

    public static void main(String[] args) {
        words();
        ints();
        names();
        plainStrings();
        hexStrings();
        arrays();
        dicts();
        refs();
        depth();
        white();
        brokenLeavesAll();
        goodReplacesAll();
        CHECKS.finish();
    }

    private static void words() {
        CHECKS.reads("null", 0);
        CHECKS.reads("true", 1);
        CHECKS.reads("false", 2);
        for (String text : new String[] {"", "nul", "nulll", "Null", "tru", "truee", "falsE", "R", "nulltrue", "null true",
                "x", "-", "+", ".", "{", "}", "%", "null%", "\\", "null)", "]", ")", ">", ">>"}) {
            CHECKS.broken(text);
        }
    }

    private static void ints() {
        for (String text : new String[] {"0", "-0", "7", "007", "123456789", "-123456789", "000000000", "-000000001"}) {
            CHECKS.reads(text, 3);
            CHECKS.due("look(1) of " + text, Checks.holding(text).look(1), Integer.parseInt(text));
        }
        for (String text : new String[] {"1234567890", "-1234567890", "0000000001", "--1", "+1", "1-", "-", "1.5", "1e3",
                "0x1", "- 1", "1 2", "1a", "a1", "1\t"}) {
            CHECKS.broken(text);
        }
    }

    private static void names() {
        String twenty = "abcdefghijklmnopqrst";
        CHECKS.reads("/a", 4);
        CHECKS.reads("/null", 4);
        CHECKS.reads("/1", 4);
        CHECKS.reads("/-#!~{}%\\\"'", 4);
        CHECKS.reads("/" + twenty, 4);
        CHECKS.broken("/" + twenty + "u");
        CHECKS.broken("/a b");
        CHECKS.broken("/a/b");
        CHECKS.broken("//a");
        CHECKS.broken("/ a");
        CHECKS.broken("/a\u007f");
        CHECKS.broken("/a\u0080");
        CHECKS.broken("/a\0");
        // A WORD has as many regular bytes as there are, at most 20 in a NAME: none are allowed, too.
        CHECKS.reads("/", 4);
        CHECKS.reads("[//a/]", 6);
        CHECKS.reads("<</ 1/a 2>>", 7);
        CHECKS.broken("<</ 1/ 2>>");
        for (int b = 0; b < 256; b++) {
            boolean white = b == 32 || b == 10 || b == 13;
            boolean regular = b >= 33 && b <= 126 && "()<>[]/".indexOf(b) < 0;
            CHECKS.reads("/a" + (char) b, white || regular ? 4 : ValueTexts.BROKEN);
        }
    }

    private static void plainStrings() {
        CHECKS.reads("()", 5);
        CHECKS.reads("(a b)", 5);
        CHECKS.writes("(\\(\\)\\\\)", "<28295c>");
        CHECKS.writes("(\\000\\377\\0101)", "<00ff0831>");
        CHECKS.writes("(<[/>]% \r\n\0\t)", "<3c5b2f3e5d25200d0a0009>");
        for (int b = 0; b < 256; b++) {
            boolean plain = b != '(' && b != ')' && b != '\\';
            CHECKS.reads("(" + (char) b + ")", plain ? 5 : ValueTexts.BROKEN);
            boolean meant = b == '(' || b == ')' || b == '\\';
            CHECKS.reads("(\\" + (char) b + ")", meant ? 5 : ValueTexts.BROKEN);
        }
        for (String text : new String[] {"(", "(a", ")", "(a))", "((a)", "((a))", "(()", "(\\", "(\\)", "(\\n)", "(\\1)",
                "(\\12)", "(\\12", "(\\128)", "(\\182)", "(\\812)", "(\\400)", "(\\777)", "(\\ 12)", "(\\\n)", "(a)(b)", "(a)b"}) {
            CHECKS.broken(text);
        }
        CHECKS.reads("(" + Checks.times("a", 100) + ")", 5);
        CHECKS.broken("(" + Checks.times("a", 101) + ")");
        CHECKS.broken("(" + Checks.times("a", 101));
        CHECKS.reads("(" + Checks.times("\\101", 100) + ")", 5);
        CHECKS.broken("(" + Checks.times("\\101", 101) + ")");
        CHECKS.reads("(" + Checks.times("\\)", 100) + ")", 5);
        CHECKS.broken("(" + Checks.times("\\)", 100) + "a)");
    }

    private static void hexStrings() {
        CHECKS.reads("<>", 5);
        CHECKS.writes("<00ff09afAF>", "<00ff09afaf>");
        for (String text : new String[] {"<", "<a>", "<abc>", "<ab", "<ag>", "<ga>", "<a b>", "<ab cd>", "< ab>", "<ab >",
                "< >", "<ab>>", "<@a>", "<`a>", "<:a>", "<Ga>", "<a/>", "<(a)>"}) {
            CHECKS.broken(text);
        }
        CHECKS.reads("<" + Checks.times("6a", 100) + ">", 5);
        CHECKS.broken("<" + Checks.times("6a", 101) + ">");
        CHECKS.broken("<" + Checks.times("6a", 101));
    }

    private static void arrays() {
        CHECKS.reads("[]", 6);
        CHECKS.reads("[ ]", 6);
        CHECKS.reads("[1]", 6);
        CHECKS.reads("[null/a(b)<63>[]<<>>1 0 R -1]", 6);
        for (String text : new String[] {"[", "]", "[1", "1]", "[]]", "[[]", "[1 x]", "[1,2]", "[R]", "[)]", "[1>>", "<<1]"}) {
            CHECKS.broken(text);
        }
        CHECKS.reads("[" + Checks.times("1 ", 60) + "]", 6);
        CHECKS.broken("[" + Checks.times("1 ", 61) + "]");
        CHECKS.broken("[" + Checks.times("1 ", 61));
        CHECKS.reads("[" + Checks.times("()", 60) + "]", 6);
        CHECKS.broken("[" + Checks.times("()", 61) + "]");
        CHECKS.reads("[" + Checks.times("[" + Checks.times("/", 60) + "]", 16) + "]", 6);
    }

    private static void dicts() {
        CHECKS.reads("<<>>", 7);
        CHECKS.reads("<< >>", 7);
        CHECKS.reads("<</a 1>>", 7);
        CHECKS.reads("<</a/b/b/a>>", 7);
        CHECKS.reads("<</a<62>>>", 7);
        CHECKS.reads("<</a<<>>>>", 7);
        CHECKS.reads("<</a 1 0 R/b 2>>", 7);
        CHECKS.reads("<</a<</a 1>>/b[<</a 2>>]>>", 7);
        CHECKS.reads("<</a 1/aa 2/A 3>>", 7);
        for (String text : new String[] {"<<", ">>", "<<>", "<< >", "< <>>", "<<> >", "<</a>>", "<</a 1/b>>", "<<1 2>>",
                "<<(a)1>>", "<<a 1>>", "<</a 1 2>>", "<</a 1", "<</a 1>", "<</a 1> >", "<</a 1>x", "<<x>", "<<>x",
                "<</a 1>>>", "<</a 1/a 1>>",
                "<</a 1/b 2/a 3>>", "<</a[1 2]/b<</c 3>>/b 4>>", "<</a<</b 1/b 2>>>>", "<</a x>>"}) {
            CHECKS.broken(text);
        }
        CHECKS.reads(Checks.dictOf(30), 7);
        CHECKS.broken(Checks.dictOf(31));
        CHECKS.broken(Checks.dictOf(31).replace(">>", ""));
        CHECKS.reads("<</abcdefghijklmnopqrst 1>>", 7);
        CHECKS.broken("<</abcdefghijklmnopqrstu 1>>");
    }

    private static void refs() {
        CHECKS.reads("1 0 R", 8);
        CHECKS.reads("0 0 R", 8);
        CHECKS.reads("299 65535 R", 8);
        CHECKS.reads("000000299 000065535 R", 8);
        CHECKS.reads("1 \r\n 2\n\nR", 8);
        CHECKS.reads("[1 2 3 R 4]", 6);
        CHECKS.due("look(1) of [1 2 3 R 4]", Checks.holding("[1 2 3 R 4]").look(1), 3);
        CHECKS.due("look(1) of [1 0 R/a 2 3]", Checks.holding("[1 0 R/a 2 3]").look(1), 4);
        for (String text : new String[] {"300 0 R", "1 65536 R", "-1 0 R", "-0 0 R", "1 -0 R", "1 R", "1 0", "1 0 r", "1 0 RR",
                "1 0R", "10 R", "1 0 R 2", "1/0 R", "1 0/R", "1 (0) R", "1 0000000000 R", "0000000001 0 R", "[300 0 R]",
                "[1 2 65536 R]", "[1 2 R R]", "1 x R", "null 0 R", "1 0 0 R", "1\t0 R", "1\0000 R"}) {
            CHECKS.broken(text);
        }
    }

    private static void depth() {
        CHECKS.reads(Checks.times("[", 8) + Checks.times("]", 8), 6);
        CHECKS.broken(Checks.times("[", 9) + Checks.times("]", 9));
        CHECKS.reads(Checks.times("<</a", 8) + " 1" + Checks.times(">>", 8), 7);
        CHECKS.broken(Checks.times("<</a", 9) + " 1" + Checks.times(">>", 9));
        CHECKS.reads(Checks.times("[<</a", 4) + " 1" + Checks.times(">>]", 4), 6);
        CHECKS.broken(Checks.times("[<</a", 4) + "[]" + Checks.times(">>]", 4));
        CHECKS.broken(Checks.times("[<</a", 4) + "<<>>" + Checks.times(">>]", 4));
        CHECKS.reads("[" + Checks.times("[", 7) + Checks.times("]", 7) + Checks.times("[", 7) + Checks.times("]", 7) + "]", 6);
        CHECKS.broken(Checks.times("[", 500) + Checks.times("]", 500));
        CHECKS.broken(Checks.times("[", 1000));
        CHECKS.broken(Checks.times("<</a", 250));
    }

    private static void white() {
        CHECKS.reads(" \r\n null\n\r ", 0);
        CHECKS.reads("\n[\r1 \n]\n", 6);
        CHECKS.reads(" << /a\n(b) /c\r<64> >> ", 7);
        CHECKS.reads(Checks.times(" ", 999) + "1", 3);
        CHECKS.broken(" ");
        CHECKS.broken(Checks.times("\n", 1000));
        for (int b = 0; b < 256; b++) {
            boolean white = b == 32 || b == 10 || b == 13;
            CHECKS.reads((char) b + "true" + (char) b, white ? 1 : ValueTexts.BROKEN);
            CHECKS.reads("[1" + (char) b + "2]", white || b >= '0' && b <= '9' || b == '/' ? 6 : ValueTexts.BROKEN);
        }
    }

    private static void brokenLeavesAll() {
        ValueTexts x = Checks.holding("[1 (two) <</three 3>>]");
        x.item(1);
        x.bytes(0);
        for (String text : new String[] {"", "[4 5", "(six", "<</seven 7/seven 8>>", "[9 9 9 9 9 9]]"}) {
            CHECKS.due("read() of " + text, Checks.reading(x, text), ValueTexts.BROKEN);
            CHECKS.due("end(1), the tape is empty", x.end(1), ValueTexts.REFUSED);
            CHECKS.due("look(0), the point stays", x.look(0), 5);
            CHECKS.due("OUT stays", Checks.out(x), "two");
        }
        CHECKS.due("top()", x.top(), 6);
        x.write();
        CHECKS.due("the value stays", Checks.out(x), "[1 <74776f> <</three 3>>]");
    }

    private static void goodReplacesAll() {
        ValueTexts x = new ValueTexts();
        for (int i = 0; i < 9; i++) {
            CHECKS.due("read()", Checks.reading(x, "[" + i + " [/n" + i + "]]"), 6);
            CHECKS.due("look(0), the point is the value", x.look(0), 6);
            x.item(1);
            x.item(0);
            x.write();
            CHECKS.due("written", Checks.out(x), "/n" + i);
            CHECKS.due("broken", Checks.reading(x, "[/broken"), ValueTexts.BROKEN);
            CHECKS.due("end(1), the tape is empty", x.end(1), ValueTexts.REFUSED);
        }
        for (char b = 'a'; b <= 'e'; b++) {
            String string = "(" + Checks.times("" + b, 100) + ")";
            CHECKS.due("read() of long strings", Checks.reading(x, "[" + Checks.times(string, 4) + "]"), 6);
            x.item(3);
            x.bytes(0);
            CHECKS.due("the last byte of the last one", x.octet(99), b);
        }
        CHECKS.due("read()", Checks.reading(x, "true"), 1);
        CHECKS.due("octet(-1), OUT stays", x.octet(-1), 100);
        CHECKS.due("item(0)", x.item(0), ValueTexts.NONE);
    }
}
