/** Values as texts: read, or refused, walked through, and written in one way only. */
public final class ValueTexts {
    public static final int REFUSED = -1, NONE = -2, FULL = -3, BROKEN = -4;

    private static final int NULL = 0, TRUE = 1, FALSE = 2, INT = 3, NAME = 4, STRING = 5, ARRAY = 6, DICT = 7, REF = 8;

    private static final int TAPE_BYTES = 1000;
    private static final int FEED_BYTES = 20;

    // A value is written in fewer than twice the bytes that it was read from: at worst
    // each byte of a string becomes two, or each item of one byte gets a 32 before it.
    private static final int OUT_BYTES = 2 * TAPE_BYTES;

    // Every value and every name of a dict takes at least one byte of the tape.
    private static final int MOST_NODES = TAPE_BYTES;

    private static final int MOST_DIGITS = 9;
    private static final int MOST_NAME_BYTES = 20;
    private static final int MOST_STRING_BYTES = 100;
    private static final int MOST_ITEMS = 60;
    private static final int MOST_NAMES = 30;
    private static final int MOST_DEEP = 8;
    private static final int REF_NUMBERS = 300;
    private static final int REF_OTHERS = 65536;

    private final Row tape;
    private final Row out;

    // The latest value; null as long as there is none.
    private Tree value;

    // Where the next text is read to, so that a broken one leaves the value alone.
    private Tree spare;

    // The node of the value that is the point.
    private int point;

    public ValueTexts() {
        tape = new Row(TAPE_BYTES);
        out = new Row(OUT_BYTES);
        value = null;
        spare = new Tree();
        point = 0;
    }

    public int feed(int a, int b, int c, int d, int e) {
        if (tape.size() + FEED_BYTES > TAPE_BYTES) {
            return FULL;
        }
        tape.addFour(a);
        tape.addFour(b);
        tape.addFour(c);
        tape.addFour(d);
        tape.addFour(e);
        return tape.size();
    }

    public int end(int n) {
        if (n < 0 || n > tape.size()) {
            return REFUSED;
        }
        tape.cut(n);
        return n;
    }

    public int read() {
        boolean good = new Reader(tape, spare).readsAll();
        tape.cut(0);
        if (!good) {
            return BROKEN;
        }
        Tree old = value;
        value = spare;
        spare = old == null ? new Tree() : old;
        point = 0;
        return value.kind(point);
    }

    public int write() {
        if (value == null) {
            return NONE;
        }
        out.cut(0);
        new Writer(value, out).addAll(point);
        return out.size();
    }

    public int top() {
        return value == null ? NONE : pointAt(0);
    }

    public int item(int k) {
        return value == null ? NONE : pointAt(value.part(point, k));
    }

    public int find() {
        int found = value == null ? NONE : value.valueNamed(point, tape, 0, tape.size());
        tape.cut(0);
        return pointAt(found);
    }

    public int look(int what) {
        if (what < 0 || what > 3) {
            return REFUSED;
        }
        if (value == null) {
            return NONE;
        }
        switch (what) {
            case 0:
                return value.kind(point);
            case 1:
                return value.number(point);
            case 2:
                return value.kind(point) == REF ? value.other(point) : 0;
            default:
                return value.countValues(point);
        }
    }

    public int bytes(int k) {
        if (value == null) {
            return NONE;
        }
        int node = value.nodeWithText(point, k);
        if (node == NONE) {
            return NONE;
        }
        out.cut(0);
        out.addFrom(value.text(), value.other(node), value.number(node));
        return out.size();
    }

    public int octet(int i) {
        if (i == -1) {
            return out.size();
        }
        return i >= 0 && i < out.size() ? out.get(i) : NONE;
    }

    private int pointAt(int node) {
        if (value == null || node == NONE) {
            return NONE;
        }
        point = node;
        return value.kind(node);
    }

    /** Bytes one after the other, as many as there is room for. */
    private static final class Row {
        private final byte[] cells;
        private int size;

        Row(int room) {
            cells = new byte[room];
            size = 0;
        }

        int size() {
            return size;
        }

        /** Byte i, or -1 outside the row, which is no byte, so that a reader may look past the last one. */
        int get(int i) {
            return i >= 0 && i < size ? cells[i] & 255 : -1;
        }

        void cut(int n) {
            if (n >= 0 && n <= size) {
                size = n;
            }
        }

        void add(int b) {
            if (size < cells.length) {
                cells[size] = (byte) b;
                size++;
            }
        }

        void addFour(int word) {
            add(word >>> 24);
            add(word >>> 16);
            add(word >>> 8);
            add(word);
        }

        void addWord(String word) {
            for (int i = 0; i < word.length(); i++) {
                add(word.charAt(i));
            }
        }

        void addFrom(Row source, int from, int length) {
            for (int i = 0; i < length; i++) {
                add(source.get(from + i));
            }
        }

        boolean hasAt(int from, Row other, int otherFrom, int length) {
            for (int i = 0; i < length; i++) {
                if (get(from + i) != other.get(otherFrom + i)) {
                    return false;
                }
            }
            return true;
        }
    }

    /**
     * A value as nodes, each before what lies in it; before each value of a dict stands a node for its name.
     * A node's number is an INT, a REF's number, or how many bytes, items or names it has;
     * its other is a REF's other number, or where the bytes of a NAME or STRING begin in the text.
     */
    private static final class Tree {
        private final byte[] kinds;
        private final int[] numbers;
        private final int[] others;

        // How many nodes each one is, with all that lie in it.
        private final int[] spans;

        private final Row text;
        private int size;

        Tree() {
            kinds = new byte[MOST_NODES];
            numbers = new int[MOST_NODES];
            others = new int[MOST_NODES];
            spans = new int[MOST_NODES];
            text = new Row(TAPE_BYTES);
            size = 0;
        }

        void clear() {
            size = 0;
            text.cut(0);
        }

        int add(int kind, int number, int other) {
            int node = size;
            if (node < MOST_NODES) {
                kinds[node] = (byte) kind;
                numbers[node] = number;
                others[node] = other;
                spans[node] = 1;
                size++;
            }
            return node;
        }

        /** The nodes that came since the latest part of the node are one part more of it. */
        void countPart(int node) {
            if (holds(node)) {
                numbers[node]++;
                spans[node] = size - node;
            }
        }

        Row text() {
            return text;
        }

        int kind(int node) {
            return holds(node) ? kinds[node] : NONE;
        }

        int number(int node) {
            return holds(node) ? numbers[node] : 0;
        }

        int other(int node) {
            return holds(node) ? others[node] : 0;
        }

        private boolean holds(int node) {
            return node >= 0 && node < size;
        }

        /** The node behind all that lies in this one. */
        int after(int node) {
            return holds(node) ? node + spans[node] : size;
        }

        /** The node of item k of an array, or of the value of the k-th name of a dict, or NONE. */
        int part(int node, int k) {
            if (k < 0 || k >= number(node)) {
                return NONE;
            }
            if (kind(node) == DICT) {
                return nameNode(node, k) + 1;
            }
            return kind(node) == ARRAY ? itemNode(node, k) : NONE;
        }

        private int itemNode(int array, int k) {
            int node = array + 1;
            for (int i = 0; i < k; i++) {
                node = after(node);
            }
            return node;
        }

        private int nameNode(int dict, int k) {
            int node = dict + 1;
            for (int i = 0; i < k; i++) {
                node = after(node + 1);
            }
            return node;
        }

        /** The node of the value of the name that stands in a row, or NONE. */
        int valueNamed(int dict, Row row, int from, int length) {
            int names = kind(dict) == DICT ? number(dict) : 0;
            int node = dict + 1;
            for (int i = 0; i < names; i++) {
                if (number(node) == length && text.hasAt(other(node), row, from, length)) {
                    return node + 1;
                }
                node = after(node + 1);
            }
            return NONE;
        }

        /** A name or string itself, or the node of the k-th name of a dict, or NONE. */
        int nodeWithText(int node, int k) {
            int kind = kind(node);
            if (kind == NAME || kind == STRING) {
                return node;
            }
            return kind == DICT && k >= 0 && k < number(node) ? nameNode(node, k) : NONE;
        }

        int countValues(int node) {
            int count = 0;
            int stop = after(node);
            for (int i = node; i < stop; i++) {
                // The names of a dict are nodes, but no values.
                count += kind(i) == DICT ? 1 - number(i) : 1;
            }
            return count;
        }
    }

    /** Reads the tape into a tree, or refuses it; a method that answers false leaves both half done. */
    private static final class Reader {
        private final Row tape;
        private final Tree tree;
        private int at;

        Reader(Row tape, Tree tree) {
            this.tape = tape;
            this.tree = tree;
            this.at = 0;
        }

        boolean readsAll() {
            tree.clear();
            if (!object(0)) {
                return false;
            }
            at = afterWhite(at);
            return at == tape.size();
        }

        /** The depth is how many arrays and dicts the object lies in. */
        private boolean object(int depth) {
            at = afterWhite(at);
            switch (tape.get(at)) {
                case '/':
                    return name();
                case '(':
                    return plainString();
                case '<':
                    return tape.get(at + 1) == '<' ? dict(depth) : hexString();
                case '[':
                    return array(depth);
                default:
                    return number() || word();
            }
        }

        private boolean array(int depth) {
            if (depth >= MOST_DEEP) {
                return false;
            }
            at++;
            int array = tree.add(ARRAY, 0, 0);
            for (int count = 0; count <= MOST_ITEMS; count++) {
                at = afterWhite(at);
                if (tape.get(at) == ']') {
                    at++;
                    return true;
                }
                if (!object(depth + 1)) {
                    return false;
                }
                tree.countPart(array);
            }
            return false;
        }

        private boolean dict(int depth) {
            if (depth >= MOST_DEEP) {
                return false;
            }
            at += 2;
            int dict = tree.add(DICT, 0, 0);
            for (int count = 0; count <= MOST_NAMES; count++) {
                at = afterWhite(at);
                if (tape.get(at) == '>' && tape.get(at + 1) == '>') {
                    at += 2;
                    return true;
                }
                boolean known = tree.valueNamed(dict, tape, at + 1, wordLength(at + 1)) != NONE;
                if (tape.get(at) != '/' || known || !name() || !object(depth + 1)) {
                    return false;
                }
                tree.countPart(dict);
            }
            return false;
        }

        private boolean name() {
            at++;
            int length = wordLength(at);
            if (length > MOST_NAME_BYTES) {
                return false;
            }
            tree.add(NAME, length, tree.text().size());
            tree.text().addFrom(tape, at, length);
            at += length;
            return true;
        }

        private boolean plainString() {
            at++;
            int from = tree.text().size();
            for (int count = 0; count <= MOST_STRING_BYTES; count++) {
                int b = tape.get(at);
                at++;
                if (b == ')') {
                    tree.add(STRING, count, from);
                    return true;
                }
                if (b == '\\') {
                    b = escaped();
                } else if (b == '(') {
                    return false;
                }
                if (b < 0) {
                    return false;
                }
                tree.text().add(b);
            }
            return false;
        }

        /** The byte that is meant behind a \, or -1 if none is. */
        private int escaped() {
            int b = tape.get(at);
            if (b == '(' || b == ')' || b == '\\') {
                at++;
                return b;
            }
            int high = octalDigit(at);
            int middle = octalDigit(at + 1);
            int low = octalDigit(at + 2);
            if (high < 0 || high > 3 || middle < 0 || low < 0) {
                return -1;
            }
            at += 3;
            return high * 64 + middle * 8 + low;
        }

        private int octalDigit(int i) {
            int b = tape.get(i);
            return b >= '0' && b <= '7' ? b - '0' : -1;
        }

        private boolean hexString() {
            at++;
            int from = tree.text().size();
            for (int count = 0; count <= MOST_STRING_BYTES; count++) {
                if (tape.get(at) == '>') {
                    at++;
                    tree.add(STRING, count, from);
                    return true;
                }
                int high = hexDigit(at);
                int low = hexDigit(at + 1);
                if (high < 0 || low < 0) {
                    return false;
                }
                at += 2;
                tree.text().add(high * 16 + low);
            }
            return false;
        }

        private int hexDigit(int i) {
            int b = tape.get(i);
            if (b >= '0' && b <= '9') {
                return b - '0';
            }
            if (b >= 'a' && b <= 'f') {
                return b - 'a' + 10;
            }
            return b >= 'A' && b <= 'F' ? b - 'A' + 10 : -1;
        }

        private boolean word() {
            int length = wordLength(at);
            int kind = kindOfWord(length);
            if (kind == NONE) {
                return false;
            }
            tree.add(kind, 0, 0);
            at += length;
            return true;
        }

        private int kindOfWord(int length) {
            if (isWord("null", length)) {
                return NULL;
            }
            if (isWord("true", length)) {
                return TRUE;
            }
            return isWord("false", length) ? FALSE : NONE;
        }

        private boolean isWord(String word, int length) {
            if (length != word.length()) {
                return false;
            }
            for (int i = 0; i < length; i++) {
                if (tape.get(at + i) != word.charAt(i)) {
                    return false;
                }
            }
            return true;
        }

        /** An INT, or a REF: no object is the word R, so two numbers before it are a REF or the text is broken. */
        private boolean number() {
            int length = wordLength(at);
            if (!isInt(at, length)) {
                return false;
            }
            int second = afterWhite(at + length);
            int secondLength = wordLength(second);
            int third = afterWhite(second + secondLength);
            boolean followed = wordLength(third) == 1 && tape.get(third) == 'R';
            if (followed && isBelow(REF_NUMBERS, at, length) && isBelow(REF_OTHERS, second, secondLength)) {
                tree.add(REF, numberAt(at, length), numberAt(second, secondLength));
                at = third + 1;
            } else {
                tree.add(INT, numberAt(at, length), 0);
                at += length;
            }
            return true;
        }

        private boolean isBelow(int limit, int from, int length) {
            return isInt(from, length) && tape.get(from) != '-' && numberAt(from, length) < limit;
        }

        private boolean isInt(int from, int length) {
            int sign = tape.get(from) == '-' ? 1 : 0;
            int digits = length - sign;
            if (digits < 1 || digits > MOST_DIGITS) {
                return false;
            }
            for (int i = sign; i < length; i++) {
                int b = tape.get(from + i);
                if (b < '0' || b > '9') {
                    return false;
                }
            }
            return true;
        }

        private int numberAt(int from, int length) {
            int sign = tape.get(from) == '-' ? 1 : 0;
            int number = 0;
            for (int i = sign; i < length; i++) {
                number = number * 10 + tape.get(from + i) - '0';
            }
            return sign == 1 ? -number : number;
        }

        private int wordLength(int from) {
            int i = from;
            while (i < tape.size() && isRegular(tape.get(i))) {
                i++;
            }
            return i - from;
        }

        private static boolean isRegular(int b) {
            switch (b) {
                case '(':
                case ')':
                case '<':
                case '>':
                case '[':
                case ']':
                case '/':
                    return false;
                default:
                    return b >= 33 && b <= 126;
            }
        }

        private int afterWhite(int from) {
            int i = from;
            while (i < tape.size() && isWhite(tape.get(i))) {
                i++;
            }
            return i;
        }

        private static boolean isWhite(int b) {
            return b == 32 || b == 10 || b == 13;
        }
    }

    /** Writes values of a tree behind what a row has. */
    private static final class Writer {
        private static final int HIGHEST_POWER = 100000000;

        private final Tree tree;
        private final Row out;

        Writer(Tree tree, Row out) {
            this.tree = tree;
            this.out = out;
        }

        void addAll(int node) {
            addValue(node, 0);
        }

        /** The depth is how many arrays and dicts of what is written the node lies in. */
        private void addValue(int node, int depth) {
            switch (tree.kind(node)) {
                case NULL:
                    out.addWord("null");
                    break;
                case TRUE:
                    out.addWord("true");
                    break;
                case FALSE:
                    out.addWord("false");
                    break;
                case INT:
                    addInt(tree.number(node));
                    break;
                case NAME:
                    addName(node);
                    break;
                case STRING:
                    addString(node);
                    break;
                case ARRAY:
                    addArray(node, depth);
                    break;
                case DICT:
                    addDict(node, depth);
                    break;
                case REF:
                    addRef(node);
                    break;
                default:
                    break;
            }
        }

        private void addInt(int number) {
            if (number < 0) {
                out.add('-');
            }
            int rest = number < 0 ? -number : number;
            boolean begun = false;
            for (int power = HIGHEST_POWER; power >= 1; power /= 10) {
                int digit = rest / power % 10;
                begun = begun || digit > 0 || power == 1;
                if (begun) {
                    out.add('0' + digit);
                }
            }
        }

        private void addName(int node) {
            out.add('/');
            out.addFrom(tree.text(), tree.other(node), tree.number(node));
        }

        private void addString(int node) {
            out.add('<');
            for (int i = 0; i < tree.number(node); i++) {
                int b = tree.text().get(tree.other(node) + i);
                out.add(hexDigit(b >> 4 & 15));
                out.add(hexDigit(b & 15));
            }
            out.add('>');
        }

        private static int hexDigit(int n) {
            return n < 10 ? '0' + n : 'a' + n - 10;
        }

        private void addRef(int node) {
            addInt(tree.number(node));
            out.add(' ');
            addInt(tree.other(node));
            out.addWord(" R");
        }

        private void addArray(int array, int depth) {
            if (depth >= MOST_DEEP) {
                return;
            }
            out.add('[');
            int item = array + 1;
            for (int k = 0; k < tree.number(array); k++) {
                addSpaceBefore(k);
                addValue(item, depth + 1);
                item = tree.after(item);
            }
            out.add(']');
        }

        private void addDict(int dict, int depth) {
            if (depth >= MOST_DEEP) {
                return;
            }
            out.addWord("<<");
            int name = dict + 1;
            for (int k = 0; k < tree.number(dict); k++) {
                addSpaceBefore(k);
                addName(name);
                out.add(' ');
                addValue(name + 1, depth + 1);
                name = tree.after(name + 1);
            }
            out.addWord(">>");
        }

        private void addSpaceBefore(int k) {
            if (k > 0) {
                out.add(' ');
            }
        }
    }
}
