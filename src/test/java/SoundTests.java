import java.lang.reflect.Array;
import java.lang.reflect.Field;

/**
 * Promise 48, where it answers that an object is not sound. No run of calls gets there, so that these tests reach
 * into the object's private state; they are the only ones that know how it is held. How it is held is free: if it is
 * held otherwise than they know, they say so and look at nothing.
 */
public final class SoundTests {
    public static void main(String[] args) throws ReflectiveOperationException {
        try {
            plates();
            angles();
            wornTwice();
            wornWrongly();
        } catch (NoSuchFieldException e) {
            System.out.println("the state is held otherwise, there is no field " + e.getMessage());
        }
        Due.end();
    }

    private static PlateAndPoint full() {
        PlateAndPoint x = Due.withMen(3);
        for (int k = 0; k < 24; k++) {
            x.makePlate(40, 0, 0, 20, 1);
            x.wear(k % 3, k / 3, k);
        }
        return x;
    }

    private static Object of(Object owner, String field) throws ReflectiveOperationException {
        Field found = owner.getClass().getDeclaredField(field);
        found.setAccessible(true);
        return found.get(owner);
    }

    private static Object of(Object owner, String field, int at) throws ReflectiveOperationException {
        return Array.get(of(owner, field), at);
    }

    /** The field holds a value for one question, and what it held before again then. */
    private static void isSoundWith(PlateAndPoint x, Object owner, String field, Object value, boolean want)
            throws ReflectiveOperationException {
        Field found = owner.getClass().getDeclaredField(field);
        found.setAccessible(true);
        Object before = found.get(owner);
        found.set(owner, value);
        Due.is("48 isSound with " + field + " " + value, x.isSound(), want);
        found.set(owner, before);
        Due.is("48 isSound again", x.isSound(), true);
    }

    private static void plates() throws ReflectiveOperationException {
        PlateAndPoint x = full();
        for (int k : new int[] {0, 23}) {
            Object plate = of(x, "plates", k);
            isSoundWith(x, plate, "dents", 99, true);
            isSoundWith(x, plate, "dents", 100, false);
            isSoundWith(x, plate, "dents", -1, false);
            isSoundWith(x, plate, "holes", 100, true);
            isSoundWith(x, plate, "thickness", 1, true);
            isSoundWith(x, plate, "thickness", 0, false);
        }
        PlateAndPoint bare = new PlateAndPoint();
        bare.makePlate(40, 0, 0, 20, 1);
        isSoundWith(bare, of(bare, "plates", 0), "thickness", 0, false);
    }

    private static void angles() throws ReflectiveOperationException {
        PlateAndPoint x = full();
        for (int man : new int[] {0, 2}) {
            for (int k : new int[] {0, 7}) {
                Object joint = of(of(x, "men", man), "joints", k);
                isSoundWith(x, joint, "bent", 90, true);
                isSoundWith(x, joint, "bent", 91, false);
                isSoundWith(x, joint, "bent", -1, false);
            }
        }
    }

    private static void wornTwice() throws ReflectiveOperationException {
        PlateAndPoint x = full();
        Object last = of(of(x, "men", 2), "parts", 8);
        isSoundWith(x, last, "plate", of(x, "plates", 23), false);
        isSoundWith(x, last, "plate", of(x, "plates", 0), false);
        x.takeOff(0, 0);
        isSoundWith(x, last, "plate", of(x, "plates", 0), true);
        PlateAndPoint one = Due.withMen(1);
        one.makePlate(40, 0, 0, 20, 1);
        one.wear(0, 0, 0);
        isSoundWith(one, of(of(one, "men", 0), "parts", 8), "plate", of(one, "plates", 0), false);
    }

    private static void wornWrongly() throws ReflectiveOperationException {
        PlateAndPoint x = full();
        for (int k : new int[] {0, 23}) {
            Object plate = of(x, "plates", k);
            isSoundWith(x, plate, "state", 't', true);
            isSoundWith(x, plate, "state", 'x', false);
            isSoundWith(x, plate, "size", 44, true);
            isSoundWith(x, plate, "size", 45, false);
            isSoundWith(x, plate, "size", 35, false);
        }
        x.takeOff(0, 0);
        isSoundWith(x, of(x, "plates", 0), "state", 'x', true);
        isSoundWith(x, of(x, "plates", 0), "size", 99, true);
    }
}
