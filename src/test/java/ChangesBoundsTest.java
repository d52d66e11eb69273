/** The bounds of promises 51 to 54, 58 and 59: no change and 40 of them, numbers that are none, IMAGES. */
public final class ChangesBoundsTest {
    public static void main(String[] args) {
        screw();
        king();
        seats();
        fortyChanges();
        noHall();
        undo();
        images();
        back();
        imageOfChanges();
        imageOfForty();
        imageOfAllThatThereCanBe();
        Asked.close();
    }

    /** A change that is taken: what it answers, and that it is one. */
    private static MovingExits changed(String name, long due, Bounds.Call change) {
        MovingExits x = Starts.ring();
        Asked.due(name, change.on(x), due);
        Asked.due("changes behind " + name, x.count(6), 7);
        return x;
    }

    /** What undo() makes of a change is what was ahead of it. */
    private static void takenBack(String name, MovingExits x) {
        Asked.due("undo() of " + name, x.undo(), 6);
        Asked.same("behind undo() of " + name, State.of(x), State.of(Starts.ring()));
    }

    private static void screw() {
        Bounds ring = new Bounds(Starts::ring);
        ring.beside("screw(.., 0)", 0, 2, -2, (x, place) -> x.screw(place, 0));
        ring.beside("screw(0, ..)", 0, 8, -2, (x, then) -> x.screw(0, then));
        int[] was = {1, 2, 0};
        for (int place = 0; place < 3; place++) {
            for (int then = 0; then <= 8; then++) {
                String name = "screw(" + place + ", " + then + ")";
                int of = place;
                int to = then;
                MovingExits x = changed(name, was[place], y -> y.screw(of, to));
                for (int other = 0; other < 3; other++) {
                    Asked.due("THEN of " + other, x.place(other, 3), other == place ? then : was[other]);
                }
                takenBack(name, x);
            }
        }
        Bounds full = new Bounds(() -> Starts.of(Starts.FULL));
        full.beside("screw(.., 0) of nine", 0, 8, -2, (x, place) -> x.screw(place, 0));
        Asked.due("screw(8, 8) of nine", Starts.of(Starts.FULL).screw(8, 8), 0);
        new Bounds(() -> Starts.of(Halls.BARE)).only("screw without PLACES", -2, x -> x.screw(0, 0));
    }

    private static void king() {
        Bounds ring = new Bounds(Starts::ring);
        ring.beside("king(.., 0, 0)", 0, 1, -2, (x, exit) -> x.king(exit, 0, 0));
        ring.beside("king(.., NONE, NONE)", 0, 1, -2, (x, exit) -> x.king(exit, -1, -1));
        ring.beside("king(0, .., 59)", 0, 59, -2, (x, from) -> x.king(0, from, 59));
        ring.beside("king(0, 0, ..)", 0, 59, -2, (x, to) -> x.king(0, 0, to));
        ring.beside("king(0, 30, ..)", 30, 59, -2, (x, to) -> x.king(0, 30, to));
        ring.beside("king(0, 59, ..)", 59, 59, -2, (x, to) -> x.king(0, 59, to));
        ring.beside("king(0, .., 0)", 0, 0, -2, (x, from) -> x.king(0, from, 0));
        ring.only("king(0, -2, -2)", -2, x -> x.king(0, -2, -2));
        ring.only("king(0, NONE, 59)", -2, x -> x.king(0, -1, 59));
        ring.only("king(0, 59, NONE)", -2, x -> x.king(0, 59, -1));
        ring.only("king(0, NONE, -2)", -2, x -> x.king(0, -1, -2));
        ring.only("king(0, 60, 60)", -2, x -> x.king(0, 60, 60));
        int[][] ranges = {{0, 0}, {0, 59}, {59, 59}, {30, 30}, {30, 31}, {58, 59}, {-1, -1}};
        for (int[] range : ranges) {
            for (int exit = 0; exit < 2; exit++) {
                String name = "king(" + exit + ", " + range[0] + ", " + range[1] + ")";
                int of = exit;
                MovingExits x = changed(name, 0, y -> y.king(of, range[0], range[1]));
                Asked.due("from, behind " + name, x.exit(exit, 2), range[0]);
                Asked.due("to, behind " + name, x.exit(exit, 3), range[1]);
                Asked.due("the other one's, behind " + name, x.exit(1 - exit, 2), -1);
                takenBack(name, x);
            }
        }
        Bounds full = new Bounds(() -> Starts.of(Starts.FULL));
        full.beside("king(.., 0, 0) of seven", 0, 6, -2, (x, exit) -> x.king(exit, 0, 0));
        Asked.due("king(6, 0, 59) of seven", Starts.of(Starts.FULL).king(6, 0, 59), 0);
        new Bounds(() -> Starts.of(Halls.BARE)).only("king without EXITS", -2, x -> x.king(0, 0, 0));
    }

    private static void seats() {
        Bounds ring = new Bounds(Starts::ring);
        ring.beside("seats(.., 0, 1)", 0, 1, -2, (x, row) -> x.seats(row, 0, 1));
        ring.beside("seats(0, .., 1)", 0, 2, -2, (x, seat) -> x.seats(0, seat, 1));
        ring.beside("seats(0, 0, ..)", 0, 1, -2, (x, is) -> x.seats(0, 0, is));
        int[][] sits = {{0, 1, 0}, {0, 1, 1}};
        for (int seat = 0; seat < 6; seat++) {
            for (int is = 0; is < 2; is++) {
                int row = seat / 3;
                int column = seat % 3;
                int now = is;
                String name = "seats(" + row + ", " + column + ", " + is + ")";
                int was = sits[row][column];
                MovingExits x = changed(name, was, y -> y.seats(row, column, now));
                Asked.due("sits behind " + name, x.sits(row, column), is);
                Asked.due("who sit behind " + name, x.count(5), 3 + is - was);
                takenBack(name, x);
            }
        }
        Bounds full = new Bounds(() -> Starts.of(Starts.FULL));
        full.beside("seats(.., 5, 0) of six", 0, 5, -2, (x, row) -> x.seats(row, 5, 0));
        full.beside("seats(5, .., 0) of six", 0, 5, -2, (x, seat) -> x.seats(5, seat, 0));
        MovingExits last = Starts.of(Starts.FULL);
        Asked.due("seats(5, 5, 0) of 36", last.seats(5, 5, 0), 1);
        Asked.due("35 are left", last.count(5), 35);
    }

    private static void fortyChanges() {
        Bounds forty = new Bounds(Starts::ringOfForty);
        forty.only("screw, the 41st", -5, x -> x.screw(0, 0));
        forty.only("screw to the same, the 41st", -5, x -> x.screw(0, 1));
        forty.only("king, the 41st", -5, x -> x.king(0, 0, 59));
        forty.only("king never, the 41st", -5, x -> x.king(0, -1, -1));
        forty.only("seats, the 41st", -5, x -> x.seats(0, 0, 1));
        forty.only("seats of none, the 41st", -5, x -> x.seats(0, 1, 0));
        forty.only("screw of no PLACE, the 41st", -2, x -> x.screw(3, 0));
        forty.only("screw to no number, the 41st", -2, x -> x.screw(0, 9));
        forty.only("king of no EXIT, the 41st", -2, x -> x.king(2, 0, 0));
        forty.only("king of no ACT, the 41st", -2, x -> x.king(0, 0, 60));
        forty.only("seats of no SEAT, the 41st", -2, x -> x.seats(2, 0, 1));
        Bounds.Call[] changes = {x -> x.screw(0, 0), x -> x.king(0, 0, 59), x -> x.seats(0, 0, 1)};
        int[] due = {1, 0, 0};
        for (int i = 0; i < changes.length; i++) {
            MovingExits x = Starts.ringOfForty();
            Asked.due("undo() of forty", x.undo(), 39);
            Asked.due("what the 40th was in place of", x.place(1, 3), 7);
            Asked.due("the 40th", changes[i].on(x), due[i]);
            Asked.due("forty again", x.count(6), 40);
            Asked.due("the 41st", changes[i].on(x), -5);
            Asked.due("undo() of the 40th", x.undo(), 39);
        }
        // Another HALL has none of them, and as much room.
        Asked a = new Asked();
        a.x = Starts.ringOfForty();
        a.tell(Halls.RING);
        for (int i = 1; i <= 40; i++) {
            Asked.due("change " + i, a.x.seats(0, 0, i % 2), (i - 1) % 2);
            Asked.due("changes", a.x.count(6), i);
        }
        Asked.due("the 41st", a.x.seats(0, 0, 1), -5);
    }

    private static void noHall() {
        Bounds none = new Bounds(Starts::noHall);
        none.only("screw without a HALL", -2, x -> x.screw(0, 0));
        none.only("king without a HALL", -2, x -> x.king(0, 0, 0));
        none.only("king never without a HALL", -2, x -> x.king(0, -1, -1));
        none.only("seats without a HALL", -2, x -> x.seats(0, 0, 1));
        none.only("undo() without a HALL", -2, MovingExits::undo);
    }

    private static void undo() {
        new Bounds(() -> Starts.of(Halls.RING)).only("undo() of none", -5, MovingExits::undo);
        MovingExits x = Starts.ringOfForty();
        for (int left = 39; left >= 0; left--) {
            Asked.due("undo()", x.undo(), left);
        }
        Asked.due("undo() of none", x.undo(), -5);
        Asked.due("none is left", x.count(6), 0);
        Asked.same("behind all undo()", State.of(x), State.of(Starts.of(Halls.RING)));
    }

    private static void images() {
        Bounds ring = new Bounds(Starts::ring);
        ring.beside("image", 0, 2, -2, MovingExits::image);
        // LINES in each IMAGE, -1 for the one that has nothing.
        int[][] lines = {{9, 2, -1}, {0, 9, -1}, {0, 2, 9}};
        for (int k = 0; k < 3; k++) {
            MovingExits x = Starts.ring();
            Asked.due("image(" + k + ")", x.image(k), 0);
            for (int other = 0; other < 3; other++) {
                int due = lines[k][other];
                Asked.due("back(" + other + ")", x.back(other), due < 0 ? -6 : 0);
                Asked.due("LINES behind back(" + other + ")", x.count(7), due < 0 ? lines[k][1] : due);
            }
        }
        // image() changes nothing but the IMAGE.
        MovingExits same = Starts.ring();
        Asked.due("image(1)", same.image(1), 0);
        Asked.due("image(1) in place of another", same.image(1), 0);
        Asked.due("count(6)", same.count(6), 6);
        Asked.due("count(8)", same.count(8), 35);
        Asked.due("fault(1)", same.fault(1), 10);
    }

    private static void back() {
        Bounds ring = new Bounds(Starts::ring);
        ring.beside("back", 0, 2, -2, MovingExits::back);
        ring.only("back(2) of nothing", -6, x -> x.back(2));
        new Bounds(MovingExits::new).only("back(0) of a new object", -6, x -> x.back(0));
        // What is no part of the HALL stays: the TAPE, the SLOTS, the FAULT.
        MovingExits x = Starts.ring();
        Asked.due("back(1)", x.back(1), 0);
        int[] counts = {1, 1, 5, 1, 0, 0, 1, 2, 35, 3};
        for (int what = 0; what < counts.length; what++) {
            Asked.due("count(" + what + ") behind back(1)", x.count(what), counts[what]);
        }
        Asked.due("fault(0) behind back(1)", x.fault(0), 2);
        Asked.due("undo() behind back(1)", x.undo(), 0);
        Asked.due("THEN behind it", x.place(0, 3), 0);
        Asked.due("back(1) once more", x.back(1), 0);
        Asked.due("THEN is as in the IMAGE", x.place(0, 3), 7);
        Asked.due("back(0), no HALL", x.back(0), 0);
        Asked.due("count(7)", x.count(7), 0);
        Asked.due("kept without a HALL", x.kept(0), -2);
        Asked.due("undo() without a HALL", x.undo(), -2);
    }

    private static void imageOfChanges() {
        MovingExits x = Starts.of(Halls.RING.replace("exit 1 wide 2", "exit 1 wide 2 king 7 to 9"));
        Asked.due("king(1, 20, 30)", x.king(1, 20, 30), 0);
        Asked.due("screw(2, 5)", x.screw(2, 5), 0);
        Asked.due("seats(1, 2, 0)", x.seats(1, 2, 0), 1);
        Asked.due("image(1)", x.image(1), 0);
        for (int left = 2; left >= 0; left--) {
            Asked.due("undo()", x.undo(), left);
        }
        // Other changes, of other kinds, in the place of those.
        Asked.due("seats(0, 0, 1)", x.seats(0, 0, 1), 0);
        Asked.due("king(0, 1, 2)", x.king(0, 1, 2), 0);
        Asked.due("screw(0, 3)", x.screw(0, 3), 1);
        Asked.due("back(1)", x.back(1), 0);
        Asked.due("undo() of seats", x.undo(), 2);
        Asked.due("sits(1, 2)", x.sits(1, 2), 1);
        Asked.due("sits(0, 0)", x.sits(0, 0), 0);
        Asked.due("undo() of screw", x.undo(), 1);
        Asked.due("THEN of PLACE 2", x.place(2, 3), 0);
        Asked.due("THEN of PLACE 0", x.place(0, 3), 1);
        Asked.due("undo() of king", x.undo(), 0);
        Asked.due("from", x.exit(1, 2), 7);
        Asked.due("to", x.exit(1, 3), 9);
        Asked.due("the other one is no king's", x.exit(0, 2), -1);
    }

    private static void imageOfForty() {
        MovingExits x = Starts.ringOfForty();
        Asked.due("image(2) of forty", x.image(2), 0);
        for (int i = 0; i < 40; i++) {
            x.undo();
        }
        Asked.due("screw behind that", x.screw(0, 5), 1);
        Asked.due("back(2) to forty", x.back(2), 0);
        Asked.due("forty", x.count(6), 40);
        Asked.due("the 41st", x.screw(0, 5), -5);
        for (int left = 39; left >= 0; left--) {
            Asked.due("undo()", x.undo(), left);
        }
        Asked.due("undo() of none", x.undo(), -5);
        Asked.due("round() as it was told", x.round(), 3);
    }

    private static void imageOfAllThatThereCanBe() {
        Asked a = new Asked();
        a.tell(Starts.FULL);
        a.x.king(6, 0, 59);
        Asked.due("image(0)", a.x.image(0), 0);
        a.tell(Halls.BARE);
        Asked.due("image(1)", a.x.image(1), 0);
        Asked.due("back(0)", a.x.back(0), 0);
        MovingExits full = Starts.of(Starts.FULL);
        full.king(6, 0, 59);
        for (int place = 0; place < 9; place++) {
            for (int what = 0; what < 4; what++) {
                Asked.due("place", a.x.place(place, what), full.place(place, what));
            }
        }
        for (int exit = 0; exit < 7; exit++) {
            for (int what = 0; what < 4; what++) {
                Asked.due("exit", a.x.exit(exit, what), full.exit(exit, what));
            }
            Asked.due("at", a.x.at(exit, 59), full.at(exit, 59));
        }
        Asked.due("who sit", a.x.count(5), 36);
        Asked.due("law", a.x.count(2), 12);
        Asked.due("back(1)", a.x.back(1), 0);
        Asked.due("who sit", a.x.count(5), 1);
        Asked.due("PLACES", a.x.count(3), 0);
    }
}
