/** Promises 51 to 54, 58 and 59: changes, taken back, and IMAGES. */
public final class ChangesTest {
    public static void main(String[] args) {
        changes();
        refusals();
        full();
        images();
        imageOfNone();
        Asked.close();
    }

    private static void changes() {
        Asked a = new Asked();
        a.tell(Halls.RING);
        MovingExits x = a.x;
        Asked.due("screw(1, 1)", x.screw(1, 1), 2);
        Asked.due("place(1, 3)", x.place(1, 3), 1);
        Asked.due("slip()", x.slip(), 1);
        Asked.due("screw(1, 8)", x.screw(1, 8), 1);
        Asked.due("at(1, 1), no such PLACE", x.at(1, 1), 1);
        Asked.due("king(0, 0, 1)", x.king(0, 0, 1), 0);
        Asked.due("at(0, 1)", x.at(0, 1), 0);
        Asked.due("at(0, 2)", x.at(0, 2), 1);
        Asked.due("king(0, 3, 59)", x.king(0, 3, 59), 0);
        Asked.due("exit(0, 2)", x.exit(0, 2), 3);
        Asked.due("exit(0, 3)", x.exit(0, 3), 59);
        Asked.due("seats(0, 2, 1)", x.seats(0, 2, 1), 0);
        Asked.due("seats(0, 1, 0)", x.seats(0, 1, 0), 1);
        Asked.due("seats(0, 1, 0) again", x.seats(0, 1, 0), 0);
        Asked.due("count(5)", x.count(5), 3);
        Asked.due("count(6)", x.count(6), 7);
        Asked.due("undo()", x.undo(), 6);
        Asked.due("sits(0, 1)", x.sits(0, 1), 0);
        Asked.due("undo()", x.undo(), 5);
        Asked.due("sits(0, 1)", x.sits(0, 1), 1);
        Asked.due("undo()", x.undo(), 4);
        Asked.due("sits(0, 2)", x.sits(0, 2), 0);
        Asked.due("undo()", x.undo(), 3);
        Asked.due("exit(0, 2)", x.exit(0, 2), 0);
        Asked.due("exit(0, 3)", x.exit(0, 3), 1);
        Asked.due("undo()", x.undo(), 2);
        Asked.due("exit(0, 2)", x.exit(0, 2), -1);
        Asked.due("at(0, 1)", x.at(0, 1), 1);
        Asked.due("undo()", x.undo(), 1);
        Asked.due("place(1, 3)", x.place(1, 3), 1);
        Asked.due("undo()", x.undo(), 0);
        Asked.due("round()", x.round(), 3);
        Asked.due("undo() of none", x.undo(), -5);
    }

    private static void refusals() {
        Asked a = new Asked();
        Asked.due("screw without a HALL", a.x.screw(0, 0), -2);
        Asked.due("king without a HALL", a.x.king(0, 0, 0), -2);
        Asked.due("seats without a HALL", a.x.seats(0, 0, 1), -2);
        a.tell(Halls.RING);
        int[][] screws = {{3, 0}, {-1, 0}, {0, 9}, {0, -1}};
        for (int[] s : screws) {
            Asked.due("screw(" + s[0] + ", " + s[1] + ")", a.x.screw(s[0], s[1]), -2);
        }
        int[][] kings = {{2, 0, 0}, {-1, 0, 0}, {0, -1, 0}, {0, 0, -1}, {0, 1, 0}, {0, 0, 60}, {0, 60, 60}, {0, -2, -2},
            {2, -1, -1}};
        for (int[] k : kings) {
            Asked.due("king(" + k[0] + ", " + k[1] + ", " + k[2] + ")", a.x.king(k[0], k[1], k[2]), -2);
        }
        int[][] seats = {{2, 0, 1}, {-1, 0, 1}, {0, 3, 1}, {0, -1, 1}, {0, 0, 2}, {0, 0, -1}};
        for (int[] s : seats) {
            Asked.due("seats(" + s[0] + ", " + s[1] + ", " + s[2] + ")", a.x.seats(s[0], s[1], s[2]), -2);
        }
        Asked.due("no change came of them", a.x.count(6), 0);
        Asked.due("king(0, 59, 59)", a.x.king(0, 59, 59), 0);
        Asked.due("king(0, NONE, NONE)", a.x.king(0, -1, -1), 0);
        Asked.due("exit(0, 2)", a.x.exit(0, 2), -1);
        Asked.due("exit(0, 3)", a.x.exit(0, 3), -1);
    }

    private static void full() {
        Asked a = new Asked();
        a.tell(Halls.RING);
        for (int i = 0; i < 40; i++) {
            Asked.due("screw", a.x.screw(2, i % 9), i == 0 ? 0 : (i - 1) % 9);
        }
        Asked.due("count(6)", a.x.count(6), 40);
        Asked.due("screw, the 41st", a.x.screw(2, 0), -5);
        Asked.due("king, the 41st", a.x.king(0, 0, 0), -5);
        Asked.due("seats, the 41st", a.x.seats(0, 0, 1), -5);
        Asked.due("screw of none, the 41st", a.x.screw(3, 0), -2);
        Asked.due("king of none, the 41st", a.x.king(2, 0, 0), -2);
        Asked.due("seats of none, the 41st", a.x.seats(2, 0, 1), -2);
        Asked.due("sits", a.x.sits(0, 0), 0);
        Asked.due("place(2, 3)", a.x.place(2, 3), 3);
        Asked.due("undo()", a.x.undo(), 39);
        Asked.due("seats, the 40th", a.x.seats(0, 0, 1), 0);
        for (int i = 39; i >= 0; i--) {
            Asked.due("undo()", a.x.undo(), i);
        }
        Asked.due("place(2, 3)", a.x.place(2, 3), 0);
        Asked.due("undo() of none", a.x.undo(), -5);
    }

    private static void images() {
        Asked a = new Asked();
        a.tell(Halls.RING);
        a.x.screw(0, 2);
        a.x.seats(0, 0, 1);
        a.row(1, 0, 5);
        Asked.due("image(2)", a.x.image(2), 0);
        Asked.due("image(3)", a.x.image(3), -2);
        Asked.due("image(-1)", a.x.image(-1), -2);
        Asked.due("back(3)", a.x.back(3), -2);
        Asked.due("back(-1)", a.x.back(-1), -2);
        Asked.due("back(0)", a.x.back(0), -6);
        a.x.undo();
        a.x.undo();
        a.x.king(1, 0, 59);
        Asked.due("image(0)", a.x.image(0), 0);
        a.tell("hall rows 1 seats 1 law 5;");
        a.x.row(3, 0, 1);
        a.x.feed(0, 0, 0, 0, 0);
        Asked.due("back(2)", a.x.back(2), 0);
        int[] due = {2, 3, 3, 3, 2, 4, 2, 9, 20, 2};
        for (int what = 0; what < due.length; what++) {
            Asked.due("count(" + what + ") as in the IMAGE", a.x.count(what), due[what]);
        }
        Asked.due("place(0, 3)", a.x.place(0, 3), 2);
        Asked.due("at(0, 1)", a.x.at(0, 1), 2);
        Asked.due("exit(1, 2)", a.x.exit(1, 2), -1);
        Asked.due("undo()", a.x.undo(), 1);
        Asked.due("undo()", a.x.undo(), 0);
        Asked.due("place(0, 3)", a.x.place(0, 3), 1);
        Asked.due("back(2) again", a.x.back(2), 0);
        Asked.due("the IMAGE is as it was", a.x.count(6), 2);
        Asked.due("back(0)", a.x.back(0), 0);
        Asked.due("at(1, 59)", a.x.at(1, 59), 1);
        Asked.due("undo()", a.x.undo(), 0);
        Asked.due("at(1, 59)", a.x.at(1, 59), 0);
    }

    private static void imageOfNone() {
        Asked a = new Asked();
        Asked.due("image(1) of no HALL", a.x.image(1), 0);
        a.tell(Halls.RING);
        Asked.due("back(1)", a.x.back(1), 0);
        Asked.due("no HALL again", a.x.round(), -2);
        Asked.due("count(7)", a.x.count(7), 0);
    }
}
