import java.util.ArrayList;
import java.util.List;

/**
 * A run of calls on a new object, which tests one sentence of the document. It remembers its calls, so that a call
 * that is due to throw is made on an object of its own: what the run holds never has to trust that it changed nothing.
 */
final class Run {
    static final char[] SIGNS_BESIDE = {0, 1, ' ', '?', '~', 127, 128, 255, 256, Character.MAX_VALUE};

    /** An object is used for at most so many calls. */
    private static final int MOST_CALLS = 512;
    private static final int SIGNS = Character.MAX_VALUE + 1;
    private static final int SIGNS_AT_ONCE = 256;

    private final String sentence;
    private final List<Call> calls = new ArrayList<>();
    private final PlateAndPoint x = new PlateAndPoint();
    private int made = 0;

    interface Call {
        Object on(PlateAndPoint x);
    }

    interface NumberCall {
        Object on(PlateAndPoint x, int number);
    }

    interface SignCall {
        Object on(PlateAndPoint x, char sign);
    }

    private Run(String sentence) {
        this.sentence = sentence;
    }

    static Run of(String sentence) {
        return new Run(sentence);
    }

    // ---- what a run begins with

    Run men(int many) {
        for (int k = 0; k < many; k++) {
            with(PlateAndPoint::addMan);
        }
        return this;
    }

    Run plate(int size, int carbon, int slag, int thickness) {
        return with(x -> x.makePlate(size, carbon, slag, thickness, 1));
    }

    /** Plates of size 40 that withstand 320 and weigh 320. */
    Run plates(int many) {
        for (int k = 0; k < many; k++) {
            plate(40, 0, 0, 20);
        }
        return this;
    }

    /** A plate more, which is cracked. */
    Run cracked(int number) {
        return plate(40, 90, 0, 20).is('x', x -> x.quench(number, 1000, 'w'));
    }

    // ---- calls that answer

    Run with(Call call) {
        made++;
        calls.add(call);
        call.on(x);
        return this;
    }

    Run is(Object due, Call call) {
        made++;
        calls.add(call);
        Object got = answerOf(x, call);
        Due.count(due.equals(got), sentence + ": call " + made + " answered " + got + ", due is " + due);
        return this;
    }

    /** The call of the number, so many times, from 0 on; what it answers is not looked at. */
    Run often(int many, NumberCall call) {
        for (int k = 0; k < many; k++) {
            int number = k;
            with(x -> call.on(x, number));
        }
        return this;
    }

    /** The call answers without a throw, on an object of its own. */
    Run takes(Call call) {
        Object got = answerOf(again(), call);
        Due.count(!(got instanceof Class), sentence + ": behind call " + made + " one threw " + got);
        return this;
    }

    // ---- calls that are refused

    /** The call throws just this exception, and what stands behind it is what stands without it. */
    Run refuses(Class<? extends RuntimeException> due, Call call) {
        for (Witness witness : Witness.values()) {
            PlateAndPoint refused = again();
            Object got = answerOf(refused, call);
            Due.count(got == due, sentence + ": behind call " + made + " one is due to throw " + due + ", was " + got);
            Seen behind = Seen.by(witness, refused);
            Seen without = Seen.by(witness, again());
            Due.count(behind.text().equals(without.text()),
                    sentence + ": behind call " + made + " one that throws changed what " + witness + " see");
            Due.count(made + 1 + behind.calls() <= MOST_CALLS, sentence + ": the test makes too many calls");
        }
        return this;
    }

    /** The least and the greatest number are taken, those beside them and far from them are not. */
    Run within(int least, int most, NumberCall call) {
        takes(x -> call.on(x, least));
        takes(x -> call.on(x, most));
        return beyond(Due.ARGUMENT, least, most, call);
    }

    /** Numbers from 0 on, of which there are so many, are taken, others are not. */
    Run numbered(int many, NumberCall call) {
        if (many > 0) {
            isNoIndex(call, 0);
            isNoIndex(call, many - 1);
        }
        return beyond(Due.INDEX, 0, many - 1, call);
    }

    private void isNoIndex(NumberCall call, int number) {
        Object got = answerOf(again(), x -> call.on(x, number));
        Due.count(got != Due.INDEX, sentence + ": behind call " + made + " " + number + " threw " + got);
    }

    private Run beyond(Class<? extends RuntimeException> due, int least, int most, NumberCall call) {
        refuses(due, x -> call.on(x, least - 1));
        if (most < Integer.MAX_VALUE - 1) {
            refuses(due, x -> call.on(x, most + 2));
        }
        refuses(due, x -> call.on(x, most + 1));
        refuses(due, x -> call.on(x, Integer.MIN_VALUE));
        return refuses(due, x -> call.on(x, Integer.MAX_VALUE));
    }

    /** Of all signs, those in the text are taken, and no others. */
    Run signs(String taken, SignCall call) {
        for (char sign : taken.toCharArray()) {
            takes(x -> call.on(x, sign));
            refusesSign(taken, call, (char) (sign - 1));
            refusesSign(taken, call, (char) (sign + 1));
            refusesSign(taken, call, Character.toUpperCase(sign));
        }
        for (char sign : SIGNS_BESIDE) {
            refusesSign(taken, call, sign);
        }
        PlateAndPoint asked = again();
        for (int k = 0; k < SIGNS; k++) {
            char sign = (char) k;
            if (taken.indexOf(sign) < 0) {
                Object got = answerOf(asked, x -> call.on(x, sign));
                Due.count(got == Due.ARGUMENT, sentence + ": sign " + k + " is due to be refused, was " + got);
            }
            if (k % SIGNS_AT_ONCE == 0) {
                asked = again();
            }
        }
        return this;
    }

    private void refusesSign(String taken, SignCall call, char sign) {
        if (taken.indexOf(sign) < 0) {
            refuses(Due.ARGUMENT, x -> call.on(x, sign));
        }
    }

    /** A new object behind the same calls. */
    private PlateAndPoint again() {
        PlateAndPoint other = new PlateAndPoint();
        for (Call call : calls) {
            call.on(other);
        }
        return other;
    }

    /** What the call answers, or the class of what it throws. */
    static Object answerOf(PlateAndPoint x, Call call) {
        try {
            return call.on(x);
        } catch (RuntimeException e) {
            return e.getClass();
        }
    }
}
