import java.lang.reflect.InvocationTargetException;
import java.lang.reflect.Method;
import java.lang.reflect.Modifier;
import java.util.Arrays;
import java.util.Comparator;

/**
 * Long runs of calls with numbers in range, at its edges and far beyond it: a call throws only what its face names,
 * from a throw of the class itself, and the object stays sound. Beside each object stands another one, which gets only
 * the calls that do not throw: if one that throws changed something, the answers of both would differ from then on.
 */
public final class StormTests {
    private static final int RUNS = 2000;
    private static final int CALLS = 180;
    private static final String SIGNS = "pehbswolfthfrgdounxq";

    private static long drawn = 20261119;

    public static void main(String[] args) throws IllegalAccessException {
        Method[] calls = Arrays.stream(PlateAndPoint.class.getDeclaredMethods())
                .filter(method -> Modifier.isPublic(method.getModifiers()))
                .sorted(Comparator.comparing(Method::getName))
                .toArray(Method[]::new);
        for (int run = 0; run < RUNS; run++) {
            PlateAndPoint x = new PlateAndPoint();
            PlateAndPoint beside = new PlateAndPoint();
            long from = drawn;
            begin(x, run);
            drawn = from;
            begin(beside, run);
            for (int k = 0; k < CALLS; k++) {
                call(x, beside, calls[next(calls.length)], run);
            }
            Due.is("run " + run + " isSound", x.isSound(), true);
            Witness witness = Witness.values()[run % Witness.values().length];
            Due.is("run " + run + ", what " + witness + " see", Seen.by(witness, x).text(),
                    Seen.by(witness, beside).text());
        }
        Due.end();
    }

    private static void begin(PlateAndPoint x, int run) {
        for (int k = 0; k < run % 4; k++) {
            x.addMan();
        }
        for (int k = 0; k < run % 25; k++) {
            x.makePlate(38 + next(5), next(91), next(21), 5 + next(56), next(2));
        }
    }

    private static void call(PlateAndPoint x, PlateAndPoint beside, Method method, int run)
            throws IllegalAccessException {
        Object[] given = new Object[method.getParameterCount()];
        for (int k = 0; k < given.length; k++) {
            given[k] = drawnFor(method.getParameterTypes()[k]);
        }
        String told = "run " + run + " " + method.getName() + Arrays.toString(given);
        Object got;
        try {
            got = method.invoke(x, given);
        } catch (InvocationTargetException e) {
            Throwable thrown = e.getCause();
            Due.count(Arrays.asList(method.getExceptionTypes()).contains(thrown.getClass()), told + " threw " + thrown);
            String at = thrown.getStackTrace()[0].getClassName();
            Due.count(at.startsWith("PlateAndPoint"), told + " was thrown by the machine: " + thrown);
            return;
        }
        Object due = null;
        try {
            due = method.invoke(beside, given);
        } catch (InvocationTargetException e) {
            Due.count(false, told + " threw beside: " + e.getCause());
        }
        Due.count(got.equals(due), told + " answered " + got + ", beside " + due);
    }

    private static Object drawnFor(Class<?> kind) {
        if (kind == boolean.class) {
            return next(2) == 0;
        }
        if (kind == char.class) {
            return SIGNS.charAt(next(SIGNS.length()));
        }
        switch (next(16)) {
            case 0:
                return Integer.MIN_VALUE;
            case 1:
                return Integer.MAX_VALUE;
            case 2:
                return -1;
            case 3:
                return next(5001);
            case 4:
            case 5:
                return next(160);
            case 6:
            case 7:
                return next(48);
            default:
                return next(9) % (1 + next(9));
        }
    }

    private static int next(int many) {
        drawn = drawn * 6364136223846793005L + 1442695040888963407L;
        return (int) ((drawn >>> 33) % many);
    }
}
