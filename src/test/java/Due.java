import java.util.NoSuchElementException;

/** What the tests share: answers that are due, and exceptions that are due. */
final class Due {
    static final Class<? extends RuntimeException> INDEX = IndexOutOfBoundsException.class;
    static final Class<? extends RuntimeException> ARGUMENT = IllegalArgumentException.class;
    static final Class<? extends RuntimeException> STATE = IllegalStateException.class;
    static final Class<? extends RuntimeException> UNSUPPORTED = UnsupportedOperationException.class;
    static final Class<? extends RuntimeException> NONE = NoSuchElementException.class;
    static final Class<? extends RuntimeException> ARITHMETIC = ArithmeticException.class;

    private static final int[] NO_INDEX_OF_3 = {-1, 3, Integer.MIN_VALUE, Integer.MAX_VALUE};

    private static int passed = 0;
    private static int failed = 0;

    private Due() {
    }

    interface Call {
        void run();
    }

    interface CallOf {
        void run(int number);
    }

    static void is(String what, long got, long want) {
        count(got == want, what + " answered " + got + ", due is " + want);
    }

    static void is(String what, char got, char want) {
        count(got == want, what + " answered '" + got + "', due is '" + want + "'");
    }

    static void is(String what, boolean got, boolean want) {
        count(got == want, what + " answered " + got + ", due is " + want);
    }

    static void is(String what, float got, float want) {
        count(got == want, what + " answered " + got + ", due is " + want);
    }

    static void is(String what, double got, double want) {
        count(got == want, what + " answered " + got + ", due is " + want);
    }

    static void is(String what, String got, String want) {
        count(got.equals(want), what + " answered " + got + ", due is " + want);
    }

    /** The call throws just this exception, and the sum stays; {@link Run#refuses} looks at all else that stays. */
    static void refuses(String what, PlateAndPoint x, Class<? extends RuntimeException> want, Call call) {
        long before = x.checksum();
        Class<?> got = null;
        try {
            call.run();
        } catch (RuntimeException e) {
            got = e.getClass();
        }
        count(got == want, what + " threw " + got + ", due is " + want);
        is(what + " and the sum", x.checksum(), before);
    }

    /** With three men, the call takes none of these numbers for a man. */
    static void wantsMan(String what, PlateAndPoint x, CallOf call) {
        for (int man : NO_INDEX_OF_3) {
            refuses(what + " man " + man, x, INDEX, () -> call.run(man));
        }
    }

    static void wantsPart(String what, PlateAndPoint x, CallOf call) {
        refuses(what + " part -1", x, INDEX, () -> call.run(-1));
        refuses(what + " part 9", x, INDEX, () -> call.run(9));
        refuses(what + " part max", x, INDEX, () -> call.run(Integer.MAX_VALUE));
    }

    static void wantsJoint(String what, PlateAndPoint x, CallOf call) {
        refuses(what + " joint -1", x, INDEX, () -> call.run(-1));
        refuses(what + " joint 8", x, INDEX, () -> call.run(8));
        refuses(what + " joint max", x, INDEX, () -> call.run(Integer.MAX_VALUE));
    }

    static void wantsPlate(String what, PlateAndPoint x, CallOf call) {
        refuses(what + " plate -1", x, INDEX, () -> call.run(-1));
        int many = plates(x);
        refuses(what + " plate " + many, x, INDEX, () -> call.run(many));
        refuses(what + " plate 24", x, INDEX, () -> call.run(24));
        refuses(what + " plate max", x, INDEX, () -> call.run(Integer.MAX_VALUE));
    }

    static void wantsRange(String what, PlateAndPoint x, int least, int most, CallOf call) {
        refuses(what + " " + (least - 1), x, ARGUMENT, () -> call.run(least - 1));
        refuses(what + " " + (most + 1), x, ARGUMENT, () -> call.run(most + 1));
        refuses(what + " min", x, ARGUMENT, () -> call.run(Integer.MIN_VALUE));
        refuses(what + " max", x, ARGUMENT, () -> call.run(Integer.MAX_VALUE));
    }

    static PlateAndPoint withMen(int many) {
        PlateAndPoint x = new PlateAndPoint();
        for (int k = 0; k < many; k++) {
            x.addMan();
        }
        return x;
    }

    /** A plate that cracked: 90 of carbon, quenched in water. */
    static int cracked(PlateAndPoint x) {
        int plate = x.makePlate(40, 90, 0, 20, 1);
        x.quench(plate, 800, 'w');
        return plate;
    }

    static int plates(PlateAndPoint x) {
        for (int k = 0; k < 24; k++) {
            try {
                x.state(k);
            } catch (IndexOutOfBoundsException e) {
                return k;
            }
        }
        return 24;
    }

    static void count(boolean isDue, String otherwise) {
        if (isDue) {
            passed++;
        } else {
            failed++;
            System.out.println(otherwise);
        }
    }

    /** Tells the sums and ends the run, with 1 if an answer was not the one that is due. */
    static void end() {
        System.out.println(passed + " answers as due, " + failed + " not");
        System.exit(failed == 0 ? 0 : 1);
    }
}
