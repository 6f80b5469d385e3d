import java.lang.reflect.Array;
import java.lang.reflect.Field;
import java.lang.reflect.Modifier;
import java.util.ArrayDeque;
import java.util.Collections;
import java.util.Deque;
import java.util.IdentityHashMap;
import java.util.Set;

/** Rule 12 of LANGUAGE.md: what a house is made of stays the same, whatever calls are made, and is small. */
public final class RoomTest {
    /** The room of a run has 600000 objects and 7300000 fields and elements: a thousand houses fit into it. */
    private static final int MOST_OBJECTS = 600;
    private static final int MOST_ELEMENTS = 7300;
    private static final Checks CHECKS = new Checks();

    private final Set<Object> seen = Collections.newSetFromMap(new IdentityHashMap<>());
    private final Deque<Object> next = new ArrayDeque<>();
    private int elements = 0;

    public static void main(String[] args) throws IllegalAccessException {
        BallotHouse x = new BallotHouse();
        RoomTest ofNew = new RoomTest(x);
        System.out.println("a house: " + ofNew.seen.size() + " objects, " + ofNew.elements + " fields and elements");
        CHECKS.holds("a new house has too many objects", ofNew.seen.size() <= MOST_OBJECTS);
        CHECKS.holds("a new house has too many elements", ofNew.elements <= MOST_ELEMENTS);
        fill(x);
        countByAll(x);
        RoomTest ofUsed = new RoomTest(x);
        CHECKS.due("objects of a used house", ofUsed.seen.size(), ofNew.seen.size());
        CHECKS.due("elements of a used house", ofUsed.elements, ofNew.elements);
        CHECKS.holds("the objects of a used house are others", ofNew.seen.containsAll(ofUsed.seen));
        CHECKS.end();
    }

    private static void fill(BallotHouse x) {
        for (int c = 0; c < 10; c++) {
            x.stand();
        }
        for (int b = 0; b < 60; b++) {
            x.ballot(b % 4, 1 + b);
            x.rank(b, b % 10);
            x.score(b, b % 10, 9);
        }
        for (int b = 0; b < 8; b++) {
            x.box(b % 4, 40);
            x.put(b, 39, 4 + b);
        }
        x.pour(1, 0, 1, 1, 39);
    }

    private static void countByAll(BallotHouse x) {
        for (int m = 0; m < 18; m++) {
            x.method(m % 9, m, 255, m % 9 == 0 ? BallotHouse.NONE : m - 1);
            x.count(m, m % 9 == 1 ? 3 : 1, 1 + m % 10);
        }
        x.count(7, 0, 30);
        x.find(0);
        x.start(17);
        x.digest();
    }

    private RoomTest(Object first) throws IllegalAccessException {
        see(first);
        while (!next.isEmpty()) {
            Object one = next.remove();
            if (one.getClass().isArray()) {
                lookIntoArray(one);
            } else {
                lookIntoObject(one);
            }
        }
    }

    private void see(Object one) {
        if (one != null && seen.add(one)) {
            next.add(one);
        }
    }

    private void lookIntoArray(Object row) {
        elements += Array.getLength(row);
        if (!row.getClass().getComponentType().isPrimitive()) {
            for (Object part : (Object[]) row) {
                see(part);
            }
        }
    }

    private void lookIntoObject(Object one) throws IllegalAccessException {
        for (Field f : one.getClass().getDeclaredFields()) {
            if (!Modifier.isStatic(f.getModifiers())) {
                elements++;
                f.setAccessible(true);
                see(f.getType().isPrimitive() ? null : f.get(one));
            }
        }
    }
}
