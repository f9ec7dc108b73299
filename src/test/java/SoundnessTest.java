import java.lang.reflect.Array;
import java.lang.reflect.Field;

/**
 * No calls lead to a house that is not sound, so this test spoils one from behind, by reflection, to see that isSound
 * looks at each place.
 */
public final class SoundnessTest {
    private static final Due CHECK = new Due();
    private static final long NO_SUCH_THING = (long) 'o' << 32 | 99;

    public static void main(String[] args) throws ReflectiveOperationException {
        spoilGlobals();
        spoilFields();
        spoilFrames();
        spoilDepth();
        spoilAnswer();
        spoilCounts();
        CHECK.finish("SoundnessTest");
    }

    /** Two things of a class with two fields, and a run that stands with two frames that have all kinds of places. */
    private static Sendhouse house() {
        Sendhouse house = new Sendhouse();
        house.add(0, 2);
        house.make(0, 3);
        house.make(1, 3);
        Due.tell(house, 3, 0, 1, 1, "n1 s a0 m1,1 r");
        Due.tell(house, 3, 1, 1, 1, "n2 j1");
        house.begin(0, 0, 1, 5, 0);
        house.go(2);
        CHECK.due("sound at first", house.isSound(), true);
        return house;
    }

    private static Object inside(Object of, String name) throws ReflectiveOperationException {
        Field field = of.getClass().getDeclaredField(name);
        field.setAccessible(true);
        return field.get(of);
    }

    private static void put(Object of, String name, Object value) throws ReflectiveOperationException {
        Field field = of.getClass().getDeclaredField(name);
        field.setAccessible(true);
        field.set(of, value);
    }

    private static void dueSpoilt(String what, Sendhouse house) {
        CHECK.due(what, house.isSound(), false);
    }

    private static void spoilGlobals() throws ReflectiveOperationException {
        for (int i = 0; i < 8; i++) {
            Sendhouse house = house();
            ((long[]) inside(house, "globals"))[i] = NO_SUCH_THING;
            dueSpoilt("global " + i, house);
        }
    }

    private static void spoilFields() throws ReflectiveOperationException {
        for (int thing = 0; thing < 2; thing++) {
            for (int field = 0; field < 2; field++) {
                Sendhouse house = house();
                Object it = Array.get(inside(inside(house, "things"), "all"), thing);
                ((long[]) inside(it, "places"))[field] = NO_SUCH_THING;
                dueSpoilt("field " + field + " of thing " + thing, house);
            }
        }
    }

    private static void spoilFrames() throws ReflectiveOperationException {
        for (int frame = 0; frame < 2; frame++) {
            for (String places : new String[] {"arguments", "temporaries", "pile"}) {
                Sendhouse house = house();
                ((long[]) inside(Array.get(inside(house, "frames"), frame), places))[0] = NO_SUCH_THING;
                dueSpoilt(places + " of frame " + frame, house);
            }
            Sendhouse house = house();
            put(Array.get(inside(house, "frames"), frame), "receiver", NO_SUCH_THING);
            dueSpoilt("receiver of frame " + frame, house);
        }
    }

    private static void spoilDepth() throws ReflectiveOperationException {
        for (int depth = 0; depth < 9; depth++) {
            Sendhouse house = house();
            put(Array.get(inside(house, "frames"), 1), "depth", depth);
            CHECK.due("depth " + depth, house.isSound(), depth == 1);
        }
    }

    private static void spoilAnswer() throws ReflectiveOperationException {
        Sendhouse house = house();
        house.end();
        Due.tell(house, 3, 0, 0, 0, "s r");
        house.begin(0, 0, 0, 0, 0);
        house.go(1);
        CHECK.due("answered", house.isSound(), true);
        put(house, "answer", NO_SUCH_THING);
        dueSpoilt("answer", house);
    }

    private static void spoilCounts() throws ReflectiveOperationException {
        Sendhouse things = house();
        put(inside(things, "things"), "count", 61);
        dueSpoilt("61 things", things);
        Sendhouse frames = house();
        put(frames, "frameCount", 13);
        dueSpoilt("13 frames", frames);
    }
}
