import java.util.Random;
import java.util.TreeSet;

/**
 * Many runs of 512 calls, always the same ones, on texts that are good or nearly good, each answer as the model's.
 * What came in them is noted, so that the runs can't lose a kind of call or of answer without being seen.
 */
final class ModelTest {
    private static final int RUNS = 1500;
    private static final Checks CHECKS = new Checks("the model");
    private static final String[] FACE = {"feed", "end", "read", "write", "top", "item", "find", "look", "bytes", "octet"};
    private static final String KINDS = " 0 1 2 3 4 5 6 7 8";

    /** Which calls came, as "one, then other", and which answers, as "call: answer". */
    private static final TreeSet<String> CAME = new TreeSet<>();

    private final Random random;
    private final ValueTexts x = new ValueTexts();
    private final Model model = new Model();
    private final StringBuilder calls = new StringBuilder();
    private int left = Checks.MOST_CALLS;
    private String latest = "new";

    private ModelTest(int seed) {
        random = new Random(seed);
    }

    public static void main(String[] args) {
        for (int seed = 0; seed < RUNS; seed++) {
            new ModelTest(seed).run();
        }
        for (String call : FACE) {
            came("new, then " + call);
            for (String next : FACE) {
                came(call + ", then " + next);
            }
        }
        cameAll("feed", "-3 20 1000");
        cameAll("end", "-1 0 1000");
        cameAll("read", "-4" + KINDS);
        cameAll("write", "-2 1 2 202");
        cameAll("top", "-2" + KINDS);
        cameAll("item", "-2" + KINDS);
        cameAll("find", "-2" + KINDS);
        cameAll("look", "-2 -1 -999999999 999999999 299 65535 100 60 30 300");
        cameAll("bytes", "-2 0 1 20 100");
        cameAll("octet", "-2 0 1 127 128 255");
        CHECKS.finish();
    }

    private static void cameAll(String call, String answers) {
        for (String answer : answers.split(" ")) {
            came(call + ": " + answer);
        }
    }

    private static void came(String what) {
        CHECKS.due("'" + what + "' in the runs", CAME.contains(what) ? "came" : "never", "came");
    }

    private void run() {
        while (left > 0) {
            int choice = random.nextInt(100);
            if (choice < 25) {
                tape(spoiled(text()));
                same("read()", x.read(), model.read());
            } else if (choice < 32) {
                tape(word());
                same("find()", x.find(), model.find());
            } else if (choice < 92) {
                query();
            } else if (choice < 96) {
                feed(anyWords());
            } else if (choice < 98) {
                int n = random.nextInt(60) - 5;
                same("end(" + n + ")", x.end(n), model.end(n));
            } else if (random.nextInt(10) == 0) {
                tapeToItsEnd();
            } else if (choice < 99) {
                same("read()", x.read(), model.read());
            } else {
                same("find()", x.find(), model.find());
            }
        }
    }

    private int[] anyWords() {
        return new int[] {random.nextInt(), random.nextInt(), random.nextInt(), random.nextInt(), random.nextInt()};
    }

    /** A text with so much white behind it that the tape is full. */
    private void tapeToItsEnd() {
        String text = text();
        tape((text + " ".repeat(1000)).substring(0, 1000));
        feed(anyWords());
        same("read()", x.read(), model.read());
    }

    private void query() {
        int k = random.nextInt(20) == 0 ? random.nextInt() : random.nextInt(10) - 2;
        switch (random.nextInt(9)) {
            case 0:
                same("write()", x.write(), model.write());
                break;
            case 1:
                same("top()", x.top(), model.top());
                break;
            case 2:
            case 3:
                same("item(" + k + ")", x.item(k), model.item(k));
                break;
            case 4:
            case 5:
                same("look(" + k + ")", x.look(k), model.look(k));
                break;
            case 6:
                same("bytes(" + k + ")", x.bytes(k), model.bytes(k));
                break;
            default:
                int i = random.nextInt(3) == 0 ? k : random.nextInt(model.octet(-1) + 2);
                same("octet(" + i + ")", x.octet(i), model.octet(i));
                break;
        }
    }

    private void same(String call, int got, int want) {
        left--;
        calls.append(call).append(' ');
        // What an object answers behind its last call is free.
        if (left >= 0) {
            String name = call.replaceFirst("\\(.*", "");
            CAME.add(latest + ", then " + name);
            CAME.add(name + ": " + want);
            latest = name;
            CHECKS.due(got == want ? call : "the last of " + calls, got, want);
        }
    }

    private void tape(String text) {
        same("end(0)", x.end(0), model.end(0));
        for (int from = 0; from < text.length(); from += 20) {
            int[] words = new int[5];
            for (int i = 0; i < 20; i++) {
                int b = from + i < text.length() ? text.charAt(from + i) : 0;
                words[i / 4] = words[i / 4] << 8 | b;
            }
            feed(words);
        }
        calls.append(Checks.shown(text));
        same("end(" + text.length() + ")", x.end(text.length()), model.end(text.length()));
    }

    private void feed(int[] words) {
        same("feed", x.feed(words[0], words[1], words[2], words[3], words[4]), model.feed(words));
    }

    private String text() {
        if (random.nextInt(12) == 0) {
            int depth = 6 + random.nextInt(4);
            boolean dicts = random.nextBoolean();
            return (dicts ? "<</a" : "[").repeat(depth) + object(8) + (dicts ? ">>" : "]").repeat(depth);
        }
        return white() + object(random.nextInt(3)) + white();
    }

    private String object(int depth) {
        int choice = random.nextInt(depth < 3 ? 14 : 9);
        switch (choice) {
            case 0:
                return new String[] {" null ", " true ", " false ", " R ", " nul "}[random.nextInt(random.nextInt(5) == 0 ? 5 : 3)];
            case 1:
            case 2:
                return " " + number() + white();
            case 3:
                return "/" + word() + white();
            case 4:
            case 5:
                return string();
            case 6:
                return hex();
            case 7:
            case 8:
                return " " + number() + " " + white() + number() + " " + white() + "R ";
            case 9:
            case 10:
            case 11:
                return array(depth + 1);
            default:
                return dict(depth + 1);
        }
    }

    private String number() {
        String[] edges = {"0", "-0", "00", "299", "300", "65535", "65536", "999999999", "1000000000", "-999999999", "-", "007"};
        return random.nextInt(3) == 0 ? edges[random.nextInt(edges.length)] : Integer.toString(random.nextInt(400));
    }

    private String word() {
        if (random.nextInt(15) == 0) {
            return "n".repeat(random.nextInt(3) + 19);
        }
        return random.nextInt(15) == 0 ? "" : new String[] {"a", "b", "c", "ab", "k", "%{"}[random.nextInt(6)];
    }

    private String string() {
        int length = random.nextInt(20) == 0 ? 98 + random.nextInt(4) : random.nextInt(6);
        StringBuilder text = new StringBuilder("(");
        for (int i = 0; i < length; i++) {
            int choice = random.nextInt(8);
            if (choice == 0) {
                text.append('\\').append("()\\".charAt(random.nextInt(3)));
            } else if (choice == 1) {
                text.append('\\').append(String.format("%03o", random.nextInt(random.nextInt(9) == 0 ? 260 : 256)));
            } else {
                int b = random.nextInt(256);
                text.append(b == '(' || b == ')' || b == '\\' ? '.' : (char) b);
            }
        }
        return text.append(")").toString();
    }

    private String hex() {
        int length = random.nextInt(20) == 0 ? 98 + random.nextInt(4) : random.nextInt(6);
        StringBuilder text = new StringBuilder("<");
        for (int i = 0; i < length; i++) {
            text.append(String.format(random.nextBoolean() ? "%02x" : "%02X", random.nextInt(256)));
        }
        return text.append(">").toString();
    }

    private String array(int depth) {
        boolean many = random.nextInt(15) == 0;
        StringBuilder text = new StringBuilder("[");
        int length = many ? 58 + random.nextInt(4) : random.nextInt(6);
        for (int i = 0; i < length; i++) {
            text.append(many ? "/x" : object(depth)).append(white());
        }
        return text.append("]").toString();
    }

    private String dict(int depth) {
        boolean many = random.nextInt(15) == 0;
        StringBuilder text = new StringBuilder("<<");
        int length = many ? 28 + random.nextInt(4) : random.nextInt(5);
        for (int i = 0; i < length; i++) {
            String name = random.nextInt(12) == 0 ? word() : "abcdefgh".charAt(i % 8) + (many ? "" + i : "");
            text.append(white()).append('/').append(name).append(' ').append(many ? "()" : object(depth));
        }
        return text.append(white()).append(">>").toString();
    }

    private String white() {
        return new String[] {"", "", " ", "\n", "\r", " \r\n"}[random.nextInt(6)];
    }

    /** Some texts lose, gain or change a byte, and those that the tape can't take are cut. */
    private String spoiled(String text) {
        StringBuilder spoiled = new StringBuilder(text);
        if (random.nextInt(4) == 0 && !text.isEmpty()) {
            int place = random.nextInt(text.length());
            char b = random.nextBoolean() ? "()<>[]/\\ R0-".charAt(random.nextInt(12)) : (char) random.nextInt(256);
            switch (random.nextInt(3)) {
                case 0:
                    spoiled.deleteCharAt(place);
                    break;
                case 1:
                    spoiled.insert(place, b);
                    break;
                default:
                    spoiled.setCharAt(place, b);
                    break;
            }
        }
        spoiled.setLength(Math.min(1000, spoiled.length()));
        return spoiled.toString();
    }
}
