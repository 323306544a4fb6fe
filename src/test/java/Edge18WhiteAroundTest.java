/** Promise 4: 'The TAPE as an OBJECT (white around it or none).' */
final class Edge18WhiteAroundTest {
    private static final Edges EDGES = new Edges("white around");
    private static final String[] OBJECTS = {"null", "true", "false", "-3", "/d", "<65>", "[6]", "<</g 7>>", "8 9 R"};

    public static void main(String[] args) {
        for (int kind = 0; kind < OBJECTS.length; kind++) {
            around(OBJECTS[kind], kind);
        }
        whiteAlone();
        EDGES.finish();
    }

    private static void around(String object, int kind) {
        String most = " ".repeat(1000 - object.length());
        for (String white : new String[] {"", " ", "\n", "\r", "\r\n", " \n\r ", most}) {
            EDGES.good(white + object, kind, object);
            EDGES.good(object + white, kind, object);
            if (!white.equals(most)) {
                EDGES.good(white + object + white, kind, object);
            }
        }
        for (int b : new int[] {0, 9, 12, 127, 160, 255, ')', ']', '>'}) {
            EDGES.bad((char) b + object);
            EDGES.bad(object + (char) b);
            EDGES.bad(object + " " + (char) b);
        }
        for (String other : OBJECTS) {
            EDGES.bad(object + " " + other);
        }
    }

    private static void whiteAlone() {
        for (int length : new int[] {0, 1, 2, 20, 999, 1000}) {
            EDGES.bad(" ".repeat(length));
            EDGES.bad("\n".repeat(length));
            EDGES.bad("\r".repeat(length));
        }
    }
}
