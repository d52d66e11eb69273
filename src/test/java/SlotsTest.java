/** Promises 60 to 62: rows of numbers in SLOTS. */
public final class SlotsTest {
    public static void main(String[] args) {
        rows();
        writes();
        pastes();
        Asked.close();
    }

    private static void rows() {
        MovingExits x = new MovingExits();
        Asked.due("row(0, 0, 0)", x.row(0, 0, 0), 0);
        Asked.due("row(3, 3, 60)", x.row(3, 3, 60), 0);
        Asked.due("row(0, 3, 61)", x.row(0, 3, 61), -2);
        Asked.due("row(0, 4, 1)", x.row(0, 4, 1), -2);
        Asked.due("row(0, -1, 1)", x.row(0, -1, 1), -2);
        Asked.due("row(4, 0, 1)", x.row(4, 0, 1), -2);
        Asked.due("row(-1, 0, 1)", x.row(-1, 0, 1), -2);
        Asked.due("row(3, 0, -1)", x.row(3, 0, -1), -3);
        Asked.due("row(4, 0, -1)", x.row(4, 0, -1), -2);
        Asked.due("row(0, 4, -1)", x.row(0, 4, -1), -2);
        Asked.due("count(9)", x.count(9), 2);
        Asked.due("the SLOT stays", x.write(3, 59, 1), 0);
        Asked.due("row(1, 0, MIN)", x.row(1, 0, Integer.MIN_VALUE), -3);
        Asked.due("count(9)", x.count(9), 2);
        Asked.due("row(3, 0, 1), in place of another", x.row(3, 0, 1), 0);
        Asked.due("write behind it", x.write(3, 1, 1), -7);
    }

    private static void writes() {
        Asked a = new Asked();
        a.tell(Halls.RING);
        Asked.due("write(4, ..)", a.x.write(4, 0, 1), -2);
        Asked.due("write(-1, ..)", a.x.write(-1, 0, 1), -2);
        Asked.due("write(2, ..)", a.x.write(2, 0, 1), -6);
        a.x.row(0, 0, 2);
        Asked.due("write(0, 2, ..)", a.x.write(0, 2, 1), -7);
        Asked.due("write(0, -1, ..)", a.x.write(0, -1, 1), -7);
        Asked.due("all 0", a.x.seen(0), act(0));
        // Cut to each WIDTH: what is above its bytes is lost, what is in them is not.
        for (int width = 0; width < 4; width++) {
            for (int above = 8; above < 64; above += 8) {
                a.row(0, width, 1L << above, 1);
                boolean lost = above >= 8 << width;
                Asked.due("width " + width + " bit " + above, a.x.seen(0), lost ? act(1) : -2);
            }
        }
        a.row(0, 0, 1, 2);
        a.x.row(0, 0, 2);
        Asked.due("all 0 again", a.x.seen(0), act(0));
        a.row(0, 2, 1, 1, 1);
        a.x.row(0, 2, 3);
        Asked.due("three of 0", a.x.fell(0), act(0) | act(2));
    }

    private static long act(int first) {
        long acts = 0;
        for (int act = first; act < 60; act += 3) {
            acts |= 1L << act;
        }
        return acts;
    }

    private static void pastes() {
        Asked a = new Asked();
        a.tell("hall rows 6 seats 6 law 1;place 0 0 to 0 then 1;place 0 1 to 0 then 2;place 0 2 to 0 then 0;"
            + "exit 0 wide 1;exit 1 wide 1;exit 2 wide 1;");
        a.row(0, 1, 0, 1, 2, 0, 1, 2);
        a.row(1, 1, 0, 0, 0);
        a.row(2, 0, 0, 0);
        Asked.due("no such SLOT", a.x.paste(4, 0, 0, 0, 1), -2);
        Asked.due("no such SLOT", a.x.paste(0, 0, -1, 0, 1), -2);
        Asked.due("one has nothing", a.x.paste(0, 0, 3, 0, 1), -6);
        Asked.due("one has nothing", a.x.paste(3, 0, 0, 0, 1), -6);
        Asked.due("no such SLOT is asked first", a.x.paste(3, 0, 4, 0, 1), -2);
        Asked.due("unlike WIDTHS", a.x.paste(0, 0, 2, 0, 1), -8);
        Asked.due("unlike WIDTHS are asked first", a.x.paste(0, -1, 2, 9, 1), -8);
        int[][] beyond = {{0, 1, 0, 4}, {3, 1, 0, 4}, {0, 1, 1, 3}, {-1, 1, 0, 1}, {0, 1, -1, 1}, {0, 1, 0, -1},
            {7, 1, 0, 1}, {Integer.MAX_VALUE, 1, 0, Integer.MAX_VALUE}, {1, 1, 0, Integer.MAX_VALUE}};
        for (int[] p : beyond) {
            Asked.due("beyond", a.x.paste(0, p[0], p[1], p[2], p[3]), -7);
        }
        Asked.due("none at the ends", a.x.paste(0, 6, 1, 3, 0), 0);
        // An EXIT and its PLACE in ACT 1: (0, 1), (1, 2), (2, 0) fit; row 0 says 0 1, 2 0, 1 2.
        Asked.due("seen", a.x.seen(0), act(1));
        Asked.due("paste onto its own, forward", a.x.paste(0, 0, 0, 2, 4), 0);
        // Now 0 1 0 1 2 0.
        Asked.due("seen", a.x.seen(0), act(1));
        Asked.due("paste onto its own, back", a.x.paste(0, 3, 0, 0, 3), 0);
        // Now 1 2 0 1 2 0.
        Asked.due("seen", a.x.seen(0), act(1));
        Asked.due("paste by one, forward", a.x.paste(0, 0, 0, 1, 5), 0);
        // Now 1 1 2 0 1 2: EXIT 1 at 1 and at 2.
        Asked.due("seen", a.x.seen(0), 0);
        Asked.due("write", a.x.write(0, 5, 1), 0);
        Asked.due("write", a.x.write(0, 3, 2), 0);
        // Now 1 1 2 2 1 1: ACT 0.
        Asked.due("seen", a.x.seen(0), act(0));
        Asked.due("paste to another", a.x.paste(0, 1, 1, 0, 3), 0);
        Asked.due("three of them", a.x.seen(1), -2);
        Asked.due("three of them", a.x.fell(1), 0);
        a.row(2, 1, 5, 5);
        Asked.due("paste on", a.x.paste(1, 1, 2, 0, 2), 0);
        Asked.due("two of them", a.x.seen(2), act(0));
    }
}
