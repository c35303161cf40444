/** What a witness saw, as a text, and how many calls that took. */
final class Seen {
    private final PlateAndPoint x;
    private final StringBuilder text = new StringBuilder();
    private int calls = 0;

    private Seen(PlateAndPoint x) {
        this.x = x;
    }

    static Seen by(Witness witness, PlateAndPoint x) {
        Seen seen = new Seen(x);
        witness.see(seen);
        return seen;
    }

    /** Puts down what a call answers; tells whether it answered. */
    boolean tell(Run.Call call) {
        calls++;
        Object got = Run.answerOf(x, call);
        text.append(' ').append(got instanceof Class ? ((Class<?>) got).getSimpleName() : got);
        return !(got instanceof Class);
    }

    /** A line of its own for a man or a plate; tells whether there is such a one. */
    boolean number(int number, Run.NumberCall call) {
        text.append('\n').append(number).append(':');
        return tell(x -> call.on(x, number));
    }

    String text() {
        return text.toString();
    }

    int calls() {
        return calls;
    }
}
