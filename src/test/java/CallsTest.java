/** An object is used for 512 calls: the last of them is answered as the first was. */
public final class CallsTest {
    private static final int CALLS = 512;

    public static void main(String[] args) {
        asked();
        changed();
        fed();
        told();
        rows();
        Asked.close();
    }

    private static MovingExits full() {
        return Starts.of(Starts.FULL);
    }

    /** The dearest calls, each all the time. */
    private static void asked() {
        // Telling the text takes end(0), what it has to be fed, end(), hall() and two fault().
        int left = CALLS - ((Starts.FULL.length() + 19) / 20 + 5);
        Bounds.Call[] dear = {x -> x.quickest(60), x -> x.wider(0, 20, 0), x -> x.stands(7), MovingExits::needs, x -> x.worth(60),
            x -> x.danger(0), MovingExits::again, x -> x.lucky(0, 20, 59), x -> x.claque(6, 59)};
        for (int i = 0; i < dear.length; i++) {
            MovingExits x = full();
            long first = dear[i].on(x);
            Asked.due("call " + i + " is answered", first >= -1 ? 1 : 0, 1);
            for (int n = 1; n < left; n++) {
                Asked.due("call " + i + ", for the " + n + "th time", dear[i].on(x), first);
            }
        }
    }

    /** A change, what comes of it, and taken back, till the calls are used up. */
    private static void changed() {
        MovingExits x = Starts.of(Halls.RING);
        int calls = (Halls.RING.length() + 19) / 20 + 5;
        for (; calls + 7 <= CALLS; calls += 7) {
            Asked.due("screw", x.screw(0, 8), 1);
            Asked.due("at", x.at(0, 59), 0);
            Asked.due("image", x.image(calls % 3), 0);
            Asked.due("undo", x.undo(), 0);
            Asked.due("at", x.at(0, 59), 2);
            Asked.due("back", x.back(calls % 3), 0);
            Asked.due("undo", x.undo(), 0);
        }
        for (; calls < CALLS; calls++) {
            Asked.due("round", x.round(), 3);
        }
        Asked.due("all are used", calls, CALLS);
    }

    /** The TAPE filled, cut and filled again. */
    private static void fed() {
        MovingExits x = new MovingExits();
        int length = 0;
        for (int call = 0; call < CALLS; call++) {
            if (length == 1400) {
                Asked.due("feed too much", x.feed(0, 0, 0, 0, 0), -1);
                Asked.due("end", x.end(call % 20), call % 20);
                length = call % 20;
                call++;
            } else if (length + 20 > 1400) {
                Asked.due("end(0)", x.end(0), 0);
                length = 0;
            } else {
                length += 20;
                Asked.due("feed", x.feed(call, call, call, call, call), length);
            }
        }
    }

    /** Text behind text: each is the HALL in place of the one ahead of it. */
    private static void told() {
        MovingExits x = new MovingExits();
        for (int text = 0; text < CALLS / 4; text++) {
            // "hall rows 1 seats 1 " to "hall rows 6 seats 1 ", and "law 3;" with blanks.
            int rows = 1 + text % 6;
            Asked.due("feed", x.feed(0x68616c6c, 0x20726f77, 0x73203020 + (rows << 8), 0x73656174, 0x73203120), 20);
            Asked.due("feed", x.feed(0x6c617720, 0x333b2020, 0x20202020, 0x20202020, 0x20202020), 40);
            Asked.due("hall", x.hall(), 1);
            Asked.due("rows", x.count(0), rows);
        }
    }

    private static void rows() {
        MovingExits x = new MovingExits();
        for (int call = 0; call < CALLS / 2; call++) {
            Asked.due("row", x.row(call % 4, call % 3, 60), 0);
            Asked.due("write", x.write(call % 4, 59, call), 0);
        }
    }
}
