import java.lang.reflect.Array;
import java.lang.reflect.Field;
import java.lang.reflect.Modifier;
import java.util.ArrayList;
import java.util.Collections;
import java.util.IdentityHashMap;
import java.util.List;
import java.util.Set;

/** All calls of a run live in one room: objects stay small, and calls that come again make nothing that is kept. */
final class RoomTest {
    private static final long ROOM = 7_300_000;

    public static void main(String[] args) throws IllegalAccessException {
        Checks checks = new Checks("the room");
        long small = cells(new ValueTexts());
        checks.due("a run of constructors has room: " + small + " cells each",
                small * Checks.MOST_CALLS < ROOM ? 1 : 0, 1);

        ValueTexts x = Checks.holding("1");
        long used = cells(x);
        checks.due("a run of constructor, feed and read has room: " + used + " cells each",
                used * Checks.MOST_CALLS / 3 < ROOM ? 1 : 0, 1);
        for (int i = 0; i < 20; i++) {
            Checks.reading(x, "<</a[1 2(three)]/b<</c 4>>>>");
            Checks.reading(x, "[broken");
            x.write();
            Checks.finding(x, "a");
            x.item(2);
            x.bytes(0);
            x.look(3);
            x.top();
        }
        checks.due("the cells of an object that was used much", cells(x), used);
        checks.finish();
    }

    /** How many fields and elements an object and all that it holds have. */
    private static long cells(Object root) throws IllegalAccessException {
        Set<Object> seen = Collections.newSetFromMap(new IdentityHashMap<>());
        List<Object> open = new ArrayList<>();
        open.add(root);
        long cells = 0;
        while (!open.isEmpty()) {
            Object one = open.remove(open.size() - 1);
            if (one == null || !seen.add(one)) {
                continue;
            }
            if (one.getClass().isArray()) {
                cells += Array.getLength(one);
                continue;
            }
            for (Field field : one.getClass().getDeclaredFields()) {
                if (!Modifier.isStatic(field.getModifiers())) {
                    cells++;
                    field.setAccessible(true);
                    if (!field.getType().isPrimitive()) {
                        open.add(field.get(one));
                    }
                }
            }
        }
        return cells;
    }
}
