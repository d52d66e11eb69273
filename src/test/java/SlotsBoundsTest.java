/** The bounds of promises 60 to 62: SLOTS, WIDTHS, rows of none and of 60 numbers, and what is beyond them. */
public final class SlotsBoundsTest {
    /** Every number as it was written is told by the PLACE of this EXIT: it is at PLACE 1 in ACT 1 alone. */
    private static final String TEXT = "hall rows 1 seats 3 law 2;place 0 0 to 0 then 1;place 0 1 to 0 then 2;place 0 2 to 0 then 2;"
        + "exit 0 wide 1;";

    public static void main(String[] args) {
        row();
        rowRefused();
        rowInPlaceOfAnother();
        write();
        cut();
        pasteSlots();
        pasteNothing();
        pasteUnlike();
        pasteBeyond();
        pasteAll();
        pasteOntoItself();
        withoutAHall();
        Asked.close();
    }

    private static void row() {
        for (int slot = 0; slot < 4; slot++) {
            for (int width = 0; width < 4; width++) {
                int[] lengths = {0, 1, 59, 60};
                for (int n : lengths) {
                    MovingExits x = Starts.ring();
                    Asked.due("row(" + slot + ", " + width + ", " + n + ")", x.row(slot, width, n), 0);
                    Asked.due("its last number", x.write(slot, n - 1, 0), n == 0 ? -7 : 0);
                    Asked.due("behind its last number", x.write(slot, n, 0), -7);
                    Asked.due("rows", x.count(9), slot == 3 ? 4 : 3);
                }
            }
        }
    }

    private static void rowRefused() {
        Bounds ring = new Bounds(Starts::ring);
        ring.beside("row(.., 0, 1)", 0, 3, -2, (x, slot) -> x.row(slot, 0, 1));
        ring.beside("row(0, .., 1)", 0, 3, -2, (x, width) -> x.row(0, width, 1));
        ring.beside("row(3, .., 1)", 0, 3, -2, (x, width) -> x.row(3, width, 1));
        for (int slot = 0; slot < 4; slot++) {
            int of = slot;
            ring.only("row of 61", -2, x -> x.row(of, 0, 61));
            ring.only("row of MAX", -2, x -> x.row(of, 3, Integer.MAX_VALUE));
            ring.only("row of -1", -3, x -> x.row(of, 0, -1));
            ring.only("row of MIN", -3, x -> x.row(of, 3, Integer.MIN_VALUE));
        }
        ring.only("row of -1 in no SLOT", -2, x -> x.row(4, 0, -1));
        ring.only("row of -1 in no SLOT", -2, x -> x.row(-1, 0, -1));
        ring.only("row of -1 of no WIDTH", -2, x -> x.row(0, 4, -1));
        ring.only("row of -1 of no WIDTH", -2, x -> x.row(0, -1, -1));
    }

    private static void rowInPlaceOfAnother() {
        Asked a = new Asked();
        a.tell(TEXT);
        long[] ones = new long[60];
        java.util.Arrays.fill(ones, 1);
        a.row(0, 3, ones);
        Asked.due("row of as many", a.x.row(0, 3, 60), 0);
        // EXIT 0 is at PLACE 0 in ACT 0 alone: all are 0, to the last.
        Asked.due("all 0", a.x.seen(0), 1);
        a.row(0, 3, ones);
        Asked.due("row of two", a.x.row(0, 0, 2), 0);
        Asked.due("all 0", a.x.seen(0), 1);
        Asked.due("row of 60 again", a.x.row(0, 1, 60), 0);
        Asked.due("what was ahead of both is gone", a.x.seen(0), 1);
        Asked.due("row of none", a.x.row(0, 1, 0), 0);
        Asked.due("it has a row", a.x.count(9), 1);
        Asked.due("no numbers fit all ACTS", a.x.leaves(0), 58);
    }

    private static void write() {
        Bounds ring = new Bounds(Starts::ring);
        ring.beside("write(.., 0, 1)", 0, 3, -2, (x, slot) -> x.write(slot, 0, 1));
        ring.only("write of nothing", -6, x -> x.write(3, 0, 1));
        ring.only("write of nothing, no such number", -6, x -> x.write(3, -1, 1));
        ring.only("write in no SLOT, no such number", -2, x -> x.write(4, 60, 1));
        ring.beside("write(0, .., 1)", 0, 1, -7, (x, i) -> x.write(0, i, 1));
        ring.beside("write(1, .., 1)", 0, 2, -7, (x, i) -> x.write(1, i, 1));
        for (int i = -1; i <= 60; i++) {
            int at = i;
            ring.only("write in a row of none", -7, x -> x.write(2, at, 1));
        }
        Asked a = new Asked();
        a.tell(TEXT);
        a.x.row(1, 0, 60);
        for (int i = 1; i < 60; i += 2) {
            Asked.due("write(1, " + i + ", 1)", a.x.write(1, i, 1), 0);
            Asked.due("seen behind it", a.x.seen(1), i == 59 ? 2 : 0);
        }
        Asked.due("write(1, 60, 0)", a.x.write(1, 60, 0), -7);
        Asked.due("the row stays", a.x.seen(1), 2);
    }

    private static void cut() {
        for (int width = 0; width < 4; width++) {
            int bits = 8 << width;
            for (int bit = 0; bit < 64; bit++) {
                Asked a = new Asked();
                a.tell(TEXT);
                a.x.row(2, width, 2);
                Asked.due("write", a.x.write(2, 1, 1 | 1L << bit), 0);
                // PLACE 1 is right, with bit 1 it is 3, which is none.
                boolean lost = bit == 0 || bit >= bits;
                Asked.due("bit " + bit + " of WIDTH " + width, a.x.seen(2), lost ? 2 : -2);
                Asked.due("write", a.x.write(2, 1, bits == 64 ? 1 : 1 + (-1L << bits)), 0);
                Asked.due("a number below 0 cut to WIDTH " + width, a.x.seen(2), 2);
            }
        }
        for (int width = 0; width < 4; width++) {
            Asked a = new Asked();
            a.tell(TEXT);
            a.row(2, width, 0, -1);
            Asked.due("-1 of WIDTH " + width, a.x.seen(2), -2);
            a.row(2, width, Long.MIN_VALUE, 1);
            Asked.due("the least of WIDTH " + width, a.x.seen(2), width == 3 ? -2 : 2);
            a.row(2, width, Long.MAX_VALUE, 1);
            Asked.due("the greatest of WIDTH " + width, a.x.seen(2), -2);
        }
    }

    private static void pasteSlots() {
        Bounds ring = new Bounds(Starts::ring);
        ring.beside("paste(.., 0, 0, 0, 1)", 0, 3, -2, (x, slot) -> x.paste(slot, 0, 0, 0, 1));
        ring.beside("paste(0, 0, .., 0, 1)", 0, 3, -2, (x, to) -> x.paste(0, 0, to, 0, 1));
        ring.beside("paste(3, 0, .., 0, 1)", 0, 3, -2, (x, to) -> x.paste(3, 0, to, 0, 1));
        ring.beside("paste(.., 0, 3, 0, 1)", 0, 3, -2, (x, slot) -> x.paste(slot, 0, 3, 0, 1));
        ring.beside("paste(0, -1, .., 9, -1)", 0, 3, -2, (x, to) -> x.paste(0, -1, to, 9, -1));
    }

    private static void pasteNothing() {
        Bounds ring = new Bounds(Starts::ring);
        ring.only("from nothing", -6, x -> x.paste(3, 0, 0, 0, 1));
        ring.only("to nothing", -6, x -> x.paste(0, 0, 3, 0, 1));
        ring.only("from nothing to itself", -6, x -> x.paste(3, 0, 3, 0, 0));
        ring.only("none from nothing", -6, x -> x.paste(3, 0, 0, 0, 0));
        ring.only("beyond, to nothing", -6, x -> x.paste(0, 9, 3, -1, -1));
    }

    private static void pasteUnlike() {
        Bounds ring = new Bounds(Starts::ring);
        ring.only("unlike", -8, x -> x.paste(0, 0, 1, 0, 1));
        ring.only("unlike the other way", -8, x -> x.paste(1, 0, 0, 0, 1));
        ring.only("none of unlike ones", -8, x -> x.paste(0, 0, 1, 0, 0));
        ring.only("beyond unlike ones", -8, x -> x.paste(0, 9, 1, -1, -1));
        for (int width = 0; width < 4; width++) {
            for (int other = 0; other < 4; other++) {
                MovingExits x = new MovingExits();
                x.row(0, width, 2);
                x.row(1, other, 2);
                Asked.due("WIDTHS " + width + ", " + other, x.paste(0, 0, 1, 0, 2), width == other ? 0 : -8);
            }
        }
    }

    private static void pasteBeyond() {
        // SLOT 1 has three numbers, SLOT 2 none, of one WIDTH; SLOT 0 has two.
        Bounds ring = new Bounds(Starts::ring);
        int[][] beyond = {{1, 0, 1, 0, 4}, {1, 1, 1, 0, 3}, {1, 0, 1, 1, 3}, {1, 3, 1, 0, 1}, {1, 0, 1, 3, 1}, {1, 2, 1, 2, 2},
            {1, -1, 1, 0, 1}, {1, 0, 1, -1, 1}, {1, 0, 1, 0, -1}, {1, -1, 1, -1, 2}, {1, 1, 1, 1, -1}, {1, -1, 1, 0, 0},
            {1, 0, 1, -1, 0}, {1, 0, 2, 0, 1}, {2, 0, 1, 0, 1}, {2, 0, 2, 0, 1}, {0, 0, 0, 0, 3}, {0, 2, 0, 0, 1}, {0, 0, 0, 2, 1},
            {1, 4, 1, 0, 0}, {1, 0, 1, 4, 0}, {2, 1, 2, 0, 0}, {1, 4, 1, 0, -1}};
        for (int[] p : beyond) {
            ring.only("beyond " + java.util.Arrays.toString(p), -7, x -> x.paste(p[0], p[1], p[2], p[3], p[4]));
        }
        ring.beside("paste(1, .., 1, 0, 3)", 0, 0, -7, (x, i) -> x.paste(1, i, 1, 0, 3));
        ring.beside("paste(1, 0, 1, .., 3)", 0, 0, -7, (x, k) -> x.paste(1, 0, 1, k, 3));
        ring.beside("paste(1, 0, 1, 0, ..)", 0, 3, -7, (x, n) -> x.paste(1, 0, 1, 0, n));
        int max = Integer.MAX_VALUE;
        ring.only("beyond by far", -7, x -> x.paste(1, max, 1, max, max));
        ring.only("beyond by far", -7, x -> x.paste(1, 1, 1, 1, max));
        ring.only("beyond by far", -7, x -> x.paste(1, max, 1, 0, 1));
        ring.only("none, at the ends", 0, x -> x.paste(1, 3, 1, 3, 0));
        ring.only("none, of rows of none", 0, x -> x.paste(2, 0, 2, 0, 0));
        ring.only("none, from the end of one to that of none", 0, x -> x.paste(1, 3, 2, 0, 0));
        ring.only("all, to where they are", 0, x -> x.paste(1, 0, 1, 0, 3));
    }

    private static void pasteAll() {
        Asked a = new Asked();
        a.tell(TEXT);
        a.row(0, 2, new long[60]);
        a.row(1, 2, new long[60]);
        for (int i = 1; i < 60; i += 2) {
            a.x.write(0, i, 1);
        }
        Asked.due("all 60", a.x.paste(0, 0, 1, 0, 60), 0);
        Asked.due("seen", a.x.seen(1), 2);
        Asked.due("where they came from they stay", a.x.seen(0), 2);
        a.x.row(1, 2, 60);
        Asked.due("the last one", a.x.paste(0, 59, 1, 59, 1), 0);
        Asked.due("seen", a.x.seen(1), 0);
        Asked.due("back with it", a.x.write(1, 59, 0), 0);
        Asked.due("seen without it", a.x.seen(1), 1);
        Asked.due("the first one to the last", a.x.paste(0, 0, 1, 59, 1), 0);
        Asked.due("seen", a.x.seen(1), 1);
        Asked.due("60 from 1 on", a.x.paste(0, 1, 1, 0, 60), -7);
        Asked.due("59 from 1 on", a.x.paste(0, 1, 1, 0, 59), 0);
        // Now 1 0 1 0 ..: EXIT 1 is none.
        Asked.due("seen", a.x.seen(1), -2);
    }

    private static void pasteOntoItself() {
        // Six numbers put onto themselves, forward and back: each is what it was ahead of the call.
        for (int from = 0; from <= 6; from++) {
            for (int to = 0; to <= 6; to++) {
                for (int n = 0; n <= 7; n++) {
                    Asked a = new Asked();
                    a.tell(Starts.FULL);
                    long[] numbers = {0, 1, 2, 3, 4, 5};
                    a.row(0, 0, numbers);
                    boolean fits = from + n <= 6 && to + n <= 6;
                    Asked.due("paste(0, " + from + ", 0, " + to + ", " + n + ")", a.x.paste(0, from, 0, to, n), fits ? 0 : -7);
                    if (fits) {
                        System.arraycopy(numbers.clone(), from, numbers, to, n);
                    }
                    // One by one, each behind EXIT 0: ACTS in which it is at PLACE 0 .. 5 are unlike.
                    for (int i = 0; i < 6; i++) {
                        a.row(2, 0, 0, 0);
                        Asked.due("take number " + i, a.x.paste(0, i, 2, 1, 1), 0);
                        a.row(3, 0, 0, numbers[i]);
                        Asked.due("number " + i, a.x.seen(2), a.x.seen(3));
                    }
                }
            }
        }
    }

    private static void withoutAHall() {
        MovingExits x = new MovingExits();
        Asked.due("row without a HALL", x.row(0, 0, 60), 0);
        Asked.due("write without a HALL", x.write(0, 59, 1), 0);
        Asked.due("paste without a HALL", x.paste(0, 0, 0, 30, 30), 0);
        Asked.due("write beyond without a HALL", x.write(0, 60, 1), -7);
        Asked.due("write of nothing without a HALL", x.write(1, 0, 1), -6);
    }
}
