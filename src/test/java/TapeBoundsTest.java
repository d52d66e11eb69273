/** The bounds of promises 1 to 3, 5 to 8 and 57: the TAPE, and numbers beside what was told. */
public final class TapeBoundsTest {
    private static final int BYTES = 1400;

    public static void main(String[] args) {
        newObject();
        feedToTheLastByte();
        feedTooMuch();
        end();
        bytes();
        fault();
        place();
        exit();
        sits();
        count();
        Asked.close();
    }

    private static MovingExits fed(int feeds) {
        MovingExits x = new MovingExits();
        for (int n = 1; n <= feeds; n++) {
            Asked.due("feed " + n, x.feed(0x20202020, 0x20202020, 0x20202020, 0x20202020, 0x20202020), 20 * n);
        }
        return x;
    }

    private static void newObject() {
        Bounds made = new Bounds(MovingExits::new);
        for (int what = 0; what <= 9; what++) {
            int asked = what;
            made.only("count(" + what + ") of a new object", 0, x -> x.count(asked));
        }
        made.only("fault(0) ahead of any", 0, x -> x.fault(0));
        made.only("fault(1) ahead of any", -1, x -> x.fault(1));
        made.only("undo() of a new object", -2, MovingExits::undo);
        made.only("end(0) of an empty TAPE", 0, x -> x.end(0));
        made.only("hall() of an empty TAPE", 0, MovingExits::hall);
        for (int k = 0; k < 3; k++) {
            int image = k;
            made.only("back(" + k + ") of nothing", -6, x -> x.back(image));
            made.only("write of nothing", -6, x -> x.write(image, 0, 1));
        }
    }

    private static void feedToTheLastByte() {
        MovingExits x = fed(BYTES / 20);
        Asked.due("a full TAPE", x.count(8), BYTES);
        Asked.due("end of a full TAPE", x.end(BYTES), BYTES);
        Asked.due("hall() of a full TAPE", x.hall(), 0);
        Asked.due("the TAPE is empty then", x.count(8), 0);
        Asked.due("feed behind that", x.feed(0, 0, 0, 0, 0), 20);
    }

    private static void feedTooMuch() {
        new Bounds(() -> fed(BYTES / 20)).only("feed to 1,420", -1, x -> x.feed(1, 1, 1, 1, 1));
        for (int length = BYTES - 19; length < BYTES; length++) {
            int cut = length;
            Bounds bounds = new Bounds(() -> cutTo(cut));
            bounds.only("feed to " + (length + 20), -1, x -> x.feed(1, 1, 1, 1, 1));
        }
        MovingExits x = cutTo(BYTES - 20);
        Asked.due("feed to 1,400", x.feed(0x3f202020, 0, 0, 0, 0), BYTES);
        Asked.due("hall()", x.hall(), -4);
        Asked.due("where the bytes came", x.fault(1), BYTES - 20);
        x = cutTo(1);
        Asked.due("feed to 21", x.feed(0x203f2020, 0, 0, 0, 0), 21);
        Asked.due("hall()", x.hall(), -4);
        Asked.due("where the bytes came", x.fault(1), 2);
    }

    private static MovingExits cutTo(int length) {
        MovingExits x = fed(BYTES / 20);
        Asked.due("end(" + length + ")", x.end(length), length);
        return x;
    }

    private static void end() {
        Bounds ring = new Bounds(Starts::ring);
        ring.only("end of all", 35, x -> x.end(35));
        ring.beside("end", 0, 35, -1, MovingExits::end);
        MovingExits x = Starts.ring();
        Asked.due("end of all but one", x.end(34), 34);
        Asked.due("what is cut is gone", x.end(35), -1);
        Asked.due("its bytes", x.count(8), 34);
        Asked.due("the text without its end", x.hall(), -4);
        Asked.due("its place", x.fault(1), 34);
        Asked.due("end of none", x.end(0), 0);
        Asked.due("its bytes", x.count(8), 0);
        Asked.due("end(1) of an empty TAPE", x.end(1), -1);
        Asked.due("the HALL stays", x.count(7), 9);
    }

    private static void bytes() {
        // Each byte of each number stands where it came: a sign that is no TOKEN shows its place.
        for (int i = 0; i < 20; i++) {
            int[] numbers = {0x20202020, 0x20202020, 0x20202020, 0x20202020, 0x20202020};
            numbers[i / 4] ^= 0xdf << 8 * (3 - i % 4);
            MovingExits x = new MovingExits();
            x.feed(numbers[0], numbers[1], numbers[2], numbers[3], numbers[4]);
            Asked.due("hall() of byte 255 at " + i, x.hall(), -4);
            Asked.due("fault(0) of byte 255 at " + i, x.fault(0), 1);
            Asked.due("fault(1) of byte 255 at " + i, x.fault(1), i);
        }
    }

    private static void fault() {
        Bounds ring = new Bounds(Starts::ring);
        ring.only("fault(0)", 2, x -> x.fault(0));
        ring.only("fault(1)", 10, x -> x.fault(1));
        ring.beside("fault", 0, 1, -1, MovingExits::fault);
        MovingExits x = Starts.ring();
        Asked.due("hall() without a FAULT", x.hall(), 2);
        Asked.due("fault(0) without", x.fault(0), 0);
        Asked.due("fault(1) without", x.fault(1), -1);
        Asked.due("back(1)", x.back(1), 0);
        Asked.due("fault(1) is of the latest hall()", x.fault(1), -1);
    }

    private static void place() {
        Bounds ring = new Bounds(Starts::ring);
        ring.of("place(.., 2)", 0, 0, 2, 4, (x, place) -> x.place(place, 2));
        ring.of("place(2, ..)", 0, 1, 3, 0, (x, what) -> x.place(2, what));
        Bounds full = new Bounds(() -> Starts.of(Starts.FULL));
        full.of("place(.., 1) of nine", 0, 0, 8, 4, (x, place) -> x.place(place, 1));
        Bounds bare = new Bounds(() -> Starts.of(Halls.BARE));
        bare.only("place(0, 0) of none", -2, x -> x.place(0, 0));
    }

    private static void exit() {
        Bounds ring = new Bounds(Starts::ring);
        ring.of("exit(.., 1)", 0, 1, 1, 2, (x, exit) -> x.exit(exit, 1));
        ring.of("exit(1, ..)", 0, 1, 3, -1, (x, what) -> x.exit(1, what));
        ring.only("exit(1, 2) of no king's", -1, x -> x.exit(1, 2));
        Bounds full = new Bounds(() -> Starts.of(Starts.FULL));
        full.of("exit(.., 0) of seven", 0, 0, 6, 6, (x, exit) -> x.exit(exit, 0));
        Bounds bare = new Bounds(() -> Starts.of(Halls.BARE));
        bare.only("exit(0, 0) of none", -2, x -> x.exit(0, 0));
    }

    private static void sits() {
        Bounds ring = new Bounds(Starts::ring);
        ring.of("sits(.., 1)", 0, 1, 1, 1, (x, row) -> x.sits(row, 1));
        ring.of("sits(1, ..)", 0, 0, 2, 1, (x, seat) -> x.sits(1, seat));
        Bounds full = new Bounds(() -> Starts.of(Starts.FULL));
        full.of("sits(.., 5) of 36", 0, 1, 5, 1, (x, row) -> x.sits(row, 5));
        full.of("sits(5, ..) of 36", 0, 1, 5, 1, (x, seat) -> x.sits(5, seat));
        Bounds bare = new Bounds(() -> Starts.of(Halls.BARE));
        bare.of("sits(.., 0) of one", 0, 1, 0, 1, (x, row) -> x.sits(row, 0));
        bare.of("sits(0, ..) of one", 0, 1, 0, 1, (x, seat) -> x.sits(0, seat));
    }

    private static void count() {
        Bounds ring = new Bounds(Starts::ring);
        ring.only("count(0)", 2, x -> x.count(0));
        ring.only("count(9)", 3, x -> x.count(9));
        ring.beside("count", 0, 9, -1, MovingExits::count);
        int[] full = {6, 6, 12, 9, 7, 36, 0, 53, 0, 0};
        int[] none = {0, 0, 0, 0, 0, 0, 0, 0, 35, 3};
        MovingExits filled = Starts.of(Starts.FULL);
        MovingExits empty = Starts.noHall();
        for (int what = 0; what <= 9; what++) {
            Asked.due("count(" + what + ") of a full HALL", filled.count(what), full[what]);
            Asked.due("count(" + what + ") of no HALL", empty.count(what), none[what]);
        }
        Asked.due("count(6) of all changes", Starts.ringOfForty().count(6), 40);
        MovingExits slots = new MovingExits();
        for (int slot = 0; slot < 4; slot++) {
            slots.row(slot, 0, 0);
            Asked.due("count(9)", slots.count(9), slot + 1);
        }
    }
}
