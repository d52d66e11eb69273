/**
 * All that can be asked of an object, as one text. The object is used up by that: its changes are taken back, its
 * TAPE is read, its IMAGES are gone back to.
 */
final class State {
    private static final int[] ACTS = {0, 1, 2, 3, 6, 30, 57, 58, 59};
    private static final int[] PLACES_OF_NUMBERS = {0, 1, 2, 3, 4, 6, 59, 60, 61};
    // What is left of an object's 512 calls to those that made it ready.
    private static final int MOST_CALLS = 430;
    private final MovingExits x;
    private final StringBuilder told = new StringBuilder();
    private int calls = 0;

    private State(MovingExits asked) {
        x = asked;
    }

    static String of(MovingExits asked) {
        State state = new State(asked);
        state.put("fault(0)", asked.fault(0));
        state.put("fault(1)", asked.fault(1));
        return state.whole();
    }

    /** For a hall() with a FAULT, by which all stays but what fault() answers. */
    static String withoutFault(MovingExits asked) {
        return new State(asked).whole();
    }

    private String whole() {
        counts(9);
        hall();
        acts();
        slots();
        changes();
        tape();
        images();
        Asked.due("calls of a State fit", calls <= MOST_CALLS ? 1 : 0, 1);
        return told.toString();
    }

    private void put(String call, long answer) {
        calls++;
        told.append(call).append(" is ").append(answer).append('\n');
    }

    private void counts(int last) {
        for (int what = 0; what <= last; what++) {
            put("count(" + what + ")", x.count(what));
        }
    }

    private long ask(int what) {
        calls++;
        return x.count(what);
    }

    private void hall() {
        long rows = ask(0);
        long seats = ask(1);
        long places = ask(3);
        long exits = ask(4);
        for (int what = 0; what < 4; what++) {
            for (int place = 0; place < places; place++) {
                put("place(" + place + ", " + what + ")", x.place(place, what));
            }
            for (int exit = 0; exit < exits; exit++) {
                put("exit(" + exit + ", " + what + ")", x.exit(exit, what));
            }
        }
        for (int row = 0; row < rows; row++) {
            for (int seat = 0; seat < seats; seat++) {
                put("sits(" + row + ", " + seat + ")", x.sits(row, seat));
            }
        }
    }

    private void acts() {
        long exits = ask(4);
        for (int exit = 0; exit < exits; exit++) {
            for (int act : ACTS) {
                put("at(" + exit + ", " + act + ")", x.at(exit, act));
            }
        }
        put("worst(0)", x.worst(0));
        put("soonest(59)", x.soonest(59));
        put("lawful()", x.lawful());
    }

    /** paste of no numbers puts nothing, and tells how long rows are and whether they are of one WIDTH. */
    private void slots() {
        for (int slot = 0; slot < 4; slot++) {
            put("seen(" + slot + ")", x.seen(slot));
            put("fell(" + slot + ")", x.fell(slot));
            for (int i : PLACES_OF_NUMBERS) {
                put("SLOT " + slot + " to " + i, x.paste(slot, i, slot, i, 0));
            }
            for (int other = 0; other < slot; other++) {
                put("SLOTS " + slot + " and " + other, x.paste(slot, 0, other, 0, 0));
            }
        }
    }

    private void changes() {
        int left = 0;
        for (int n = 0; n <= 40 && left >= 0; n++) {
            left = x.undo();
            put("undo()", left);
            put("THEN of one PLACE", x.place(n % 3, 3));
            put("an EXIT is a king's to", x.exit(n % 2, 3));
            put("who sit", x.count(5));
        }
    }

    private void tape() {
        put("hall()", x.hall());
        put("its FAULT", x.fault(0));
        put("the place of it", x.fault(1));
        counts(8);
    }

    private void images() {
        for (int k = 0; k < 3; k++) {
            put("back(" + k + ")", x.back(k));
            counts(7);
            put("its first THEN", x.place(0, 3));
            put("its undo()", x.undo());
            put("its first THEN behind that", x.place(0, 3));
        }
    }
}
