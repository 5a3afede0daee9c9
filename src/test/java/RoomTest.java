import java.lang.reflect.Array;
import java.lang.reflect.Field;
import java.lang.reflect.Modifier;
import java.util.ArrayDeque;
import java.util.Collections;
import java.util.Deque;
import java.util.IdentityHashMap;
import java.util.Set;

/** How much of the one room an object takes: it is all made at first, and no call makes it more. */
public final class RoomTest {
    // The room has some 600,000 objects and arrays, 7.3 million fields and elements, for a whole run.
    private static final int MOST_OBJECTS = 120;
    private static final int MOST_ELEMENTS = 30000;

    private RoomTest() {
    }

    public static void main(String[] args) throws IllegalAccessException {
        SlopeRunner x = new SlopeRunner();
        int[] atFirst = room(x);
        Check.due("few objects: " + atFirst[0], atFirst[0] <= MOST_OBJECTS, true);
        Check.due("few elements: " + atFirst[1], atFirst[1] <= MOST_ELEMENTS, true);
        callAll(x);
        int[] later = room(x);
        Check.due("objects after calls", later[0], atFirst[0]);
        Check.due("elements after calls", later[1], atFirst[1]);
        Check.finish();
    }

    private static void callAll(SlopeRunner x) {
        String[] texts = {"input a;input b;var k;while k<300{set k=k+1;set a=a*b/b;}give a;give b/a;", "give (((((((((1",
            "input a;input b;row r[16];set r[a]=b;give min(a,r[a])+abs(b);while 1=1{give a;}"};
        for (String text : texts) {
            Check.feed(x, text);
            x.program();
            for (int i = 0; i < 50; i++) {
                x.put(i % 2, i + 1, 7);
            }
            x.undo();
            x.redo();
            x.run();
            x.forward(0, 0, true);
            x.backward(0, 0, true);
            x.twice(0, 0, 1, true);
            x.difference(0, 0, 1, 1, true);
            x.moves(0);
            x.ways(0, 0);
            x.groups();
            x.again(100, 10);
            x.first(100, 10);
        }
    }

    /** Objects and arrays, and the fields and elements that they have together. */
    private static int[] room(Object from) throws IllegalAccessException {
        Set<Object> seen = Collections.newSetFromMap(new IdentityHashMap<>());
        Deque<Object> open = new ArrayDeque<>();
        meet(from, seen, open);
        int elements = 0;
        while (!open.isEmpty()) {
            Object each = open.pop();
            elements += each.getClass().isArray() ? meetElements(each, seen, open) : meetFields(each, seen, open);
        }
        return new int[] {seen.size(), elements};
    }

    private static int meetElements(Object array, Set<Object> seen, Deque<Object> open) {
        int length = Array.getLength(array);
        if (!array.getClass().getComponentType().isPrimitive()) {
            for (int i = 0; i < length; i++) {
                meet(Array.get(array, i), seen, open);
            }
        }
        return length;
    }

    private static int meetFields(Object each, Set<Object> seen, Deque<Object> open) throws IllegalAccessException {
        int fields = 0;
        for (Field f : each.getClass().getDeclaredFields()) {
            if (!Modifier.isStatic(f.getModifiers())) {
                fields++;
                f.setAccessible(true);
                if (!f.getType().isPrimitive()) {
                    meet(f.get(each), seen, open);
                }
            }
        }
        return fields;
    }

    private static void meet(Object found, Set<Object> seen, Deque<Object> open) {
        if (found != null && seen.add(found)) {
            open.push(found);
        }
    }
}
