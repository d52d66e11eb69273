import java.util.function.Supplier;

/** Calls on new objects of one start: each has its answer, and changes nothing. */
final class Bounds {
    /** One call. */
    interface Call {
        long on(MovingExits x);
    }

    /** A call with one number that has bounds. */
    interface Numbered {
        long on(MovingExits x, int number);
    }

    private final Supplier<MovingExits> start;
    private final String uncalled;

    Bounds(Supplier<MovingExits> made) {
        start = made;
        uncalled = State.of(made.get());
    }

    void only(String name, long due, Call call) {
        MovingExits called = start.get();
        Asked.due(name, call.on(called), due);
        Asked.same("behind " + name, State.of(called), uncalled);
    }

    /** What is beside the bounds, next to them and far off, is refused. */
    void beside(String name, int least, int most, long refusal, Numbered call) {
        int[] numbers = {least - 1, most + 1, Integer.MIN_VALUE, Integer.MAX_VALUE};
        for (int number : numbers) {
            only(name + " of " + number, refusal, x -> call.on(x, number));
        }
    }

    /** Both bounds are taken, and what is beside them is -2. */
    void of(String name, int least, long ofLeast, int most, long ofMost, Numbered call) {
        only(name + " of " + least, ofLeast, x -> call.on(x, least));
        only(name + " of " + most, ofMost, x -> call.on(x, most));
        beside(name, least, most, -2, call);
    }
}
