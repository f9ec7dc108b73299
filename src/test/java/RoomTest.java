import java.lang.reflect.Array;
import java.lang.reflect.Field;
import java.lang.reflect.Modifier;
import java.util.ArrayDeque;
import java.util.Collections;
import java.util.IdentityHashMap;
import java.util.List;
import java.util.Set;

/**
 * "An object is used for at most 512 calls after it has been made": the dearest runs of so many calls are answered to
 * the last one, and what the house keeps behind them has room among 600,000 objects and 7,300,000 fields and elements.
 */
public final class RoomTest {
    private static final Due CHECK = new Due();
    private static final int CALLS = 512;
    private static final int MOST_OBJECTS = 600_000;
    private static final int MOST_PLACES = 7_300_000;

    private final Set<Object> seen = Collections.newSetFromMap(new IdentityHashMap<>());
    private final ArrayDeque<Object> open = new ArrayDeque<>();
    private long places = 0;

    public static void main(String[] args) throws IllegalAccessException {
        dueRoom("a new house", new Sendhouse(), 100);
        dueRoom("writing", writing(), 1);
        dueRoom("telling", telling(), 10);
        dueRoom("making", making(), 10);
        dueRoom("sending", sending(), 10);
        CHECK.finish("RoomTest");
    }

    /** A house and all that it keeps has room, even as often as this. */
    private static void dueRoom(String what, Sendhouse house, int times) throws IllegalAccessException {
        RoomTest room = new RoomTest();
        room.count(house);
        CHECK.due(what + ": objects and arrays", (long) room.seen.size() * times < MOST_OBJECTS, true);
        CHECK.due(what + ": fields and elements", room.places * times < MOST_PLACES, true);
        CHECK.due(what + ": sound", house.isSound(), true);
    }

    private void count(Object first) throws IllegalAccessException {
        meet(first);
        while (!open.isEmpty()) {
            Object next = open.remove();
            if (next.getClass().isArray()) {
                countElements(next);
            } else if (next instanceof List<?> list) {
                // A list's row may be half as long again as what stands in it, and what it was ahead of that is made too.
                places += 5L * list.size();
                list.forEach(this::meet);
            } else {
                countFields(next);
            }
        }
    }

    private void meet(Object it) {
        if (it != null && seen.add(it)) {
            open.add(it);
        }
    }

    private void countElements(Object array) {
        places += Array.getLength(array);
        if (!array.getClass().getComponentType().isPrimitive()) {
            for (Object element : (Object[]) array) {
                meet(element);
            }
        }
    }

    private void countFields(Object it) throws IllegalAccessException {
        for (Field field : it.getClass().getDeclaredFields()) {
            if (!Modifier.isStatic(field.getModifiers())) {
                places++;
                field.setAccessible(true);
                if (!field.getType().isPrimitive()) {
                    meet(field.get(it));
                }
            }
        }
    }

    /** As many values as can be are written: eleven at each step. */
    private static Sendhouse writing() {
        Sendhouse house = new Sendhouse();
        Due.tell(house, 2, 0, 0, 0, "u w ".repeat(10) + "n-5 w j0");
        house.begin(0, 0, 0, 0, 0);
        int goes = CALLS - 23 - 2 - 2;
        for (int i = 0; i < goes; i++) {
            CHECK.due("writing goes on", house.go(500), 500);
        }
        int last = 11 * (goes * 500 + 1) - 1;
        CHECK.due("the last one's number", house.writtenValue(last), -5);
        CHECK.due("all are kept", house.written(), last + 1);
        return house;
    }

    /** As many methods as can be are told; each has room for 24 rows, however few it has. */
    private static Sendhouse telling() {
        Sendhouse house = new Sendhouse();
        for (int i = 0; i < CALLS / 2; i++) {
            CHECK.due("told", Due.tell(house, i % 3, i / 3 % 16, 0, 0, "j0"), 1);
        }
        return house;
    }

    /** As many things as can be are made and gone: 60 by each run, with their fields. */
    private static Sendhouse making() {
        Sendhouse house = new Sendhouse();
        house.add(0, 4);
        house.add(3, 4);
        Due.tell(house, 2, 0, 0, 0, "c4 p j0");
        int calls = 2 + 4;
        for (; calls + 3 <= CALLS; calls += 3) {
            house.begin(0, 0, 0, 0, 0);
            house.go(500);
            CHECK.due("60 are there", Due.outcome(house), "xm");
            CHECK.due("all are gone", house.collect(), 60);
        }
        CHECK.due("the next number", house.make(0, 4), 60 * ((CALLS - 6) / 3));
        return house;
    }

    /** As many sends as can be, each with a frame of its own. */
    private static Sendhouse sending() {
        Sendhouse house = new Sendhouse();
        Due.tell(house, 2, 0, 0, 0, "u m1,0 p ".repeat(7) + "j0");
        Due.tell(house, 0, 1, 0, 4, "s r");
        house.begin(0, 0, 0, 0, 0);
        int goes = CALLS - 23 - 3 - 1;
        for (int i = 0; i < goes; i++) {
            CHECK.due("sending goes on", house.go(500), 500);
        }
        CHECK.due("steps", house.steps(), 500 * goes);
        return house;
    }
}
