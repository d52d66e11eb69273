/** Promises 37 to 42: ACTS that fit what was seen, and where one fell. */
public final class CluesTest {
    private static final long ALL = (1L << 60) - 1;

    public static void main(String[] args) {
        seen();
        asked();
        fell();
        refusals();
        Asked.close();
    }

    /** Every third ACT from one on. */
    private static long third(int from) {
        long acts = 0;
        for (int act = from; act < 60; act += 3) {
            acts |= 1L << act;
        }
        return acts;
    }

    private static void seen() {
        Asked a = new Asked();
        a.tell(Halls.RING);
        a.row(0, 0, 0, 1);
        Asked.due("seen", a.x.seen(0), third(1));
        Asked.due("ask", a.x.ask(0), -1);
        Asked.due("leaves", a.x.leaves(0), 20);
        a.row(1, 3, 0, 1, 1, 2, 0, 1);
        Asked.due("seen twice", a.x.seen(1), third(1));
        a.row(2, 1, 0, 1, 1, 1);
        Asked.due("seen never", a.x.seen(2), 0);
        Asked.due("ask of none", a.x.ask(2), -1);
        Asked.due("leaves of none", a.x.leaves(2), 0);
        a.row(3, 2);
        Asked.due("seen nothing", a.x.seen(3), ALL);
        Asked.due("ask of all", a.x.ask(3), 0);
        Asked.due("leaves of all", a.x.leaves(3), 20);
        // 256 is cut to 0 in one byte, and stays in two.
        a.row(0, 0, 256, 257);
        Asked.due("cut", a.x.seen(0), third(1));
        a.row(0, 1, 256, 1);
        Asked.due("not cut", a.x.seen(0), -2);
        a.row(0, 2, 1L << 32, 1);
        Asked.due("cut to four bytes", a.x.seen(0), third(1));
        a.row(0, 3, 1L << 32, 1);
        Asked.due("not cut of eight", a.x.seen(0), -2);
    }

    private static void asked() {
        Asked a = new Asked();
        // EXIT 0 never moves, EXIT 1 is at two PLACES in turn, EXIT 2 comes round in three ACTS.
        a.tell("hall rows 2 seats 3 law 1;place 0 0 to 0 then 0;place 0 1 to 0 then 2;place 0 2 to 0 then 1;"
            + "place 1 0 to 0 then 4;place 1 1 to 0 then 5;place 1 2 to 0 then 3;"
            + "exit 0 wide 1;exit 1 wide 1;exit 3 wide 1;");
        a.row(0, 0);
        Asked.due("ask", a.x.ask(0), 2);
        Asked.due("leaves", a.x.leaves(0), 20);
        a.row(0, 0, 2, 4);
        Asked.due("ask the other then", a.x.ask(0), 1);
        Asked.due("leaves then", a.x.leaves(0), 10);
        a.row(0, 0, 2, 4, 1, 1);
        Asked.due("ask none then", a.x.ask(0), -1);
        Asked.due("leaves as now", a.x.leaves(0), 10);
        Asked.due("seen", Long.bitCount(a.x.seen(0)), 10);
        a.tell(Halls.BARE);
        a.row(0, 0);
        Asked.due("seen without EXITS", a.x.seen(0), ALL);
        Asked.due("ask without EXITS", a.x.ask(0), -1);
        Asked.due("leaves without EXITS", a.x.leaves(0), 60);
    }

    private static void fell() {
        Asked a = new Asked();
        a.tell(Halls.RING);
        a.row(0, 1, 0, 2, 1);
        Asked.due("fell into the sea", a.x.fell(0), third(0) | third(1));
        Asked.due("many", a.x.many(0), 40);
        Asked.due("sure of unlike ones", a.x.sure(0, 0), -1);
        a.row(0, 1, 0, 2, 0);
        Asked.due("fell into the street", a.x.fell(0), third(2));
        Asked.due("many", a.x.many(0), 20);
        Asked.due("sure(0, 0)", a.x.sure(0, 0), 2);
        Asked.due("sure(0, 1)", a.x.sure(0, 1), 0);
        Asked.due("sure(0, 2)", a.x.sure(0, 2), -2);
        Asked.due("sure(0, -1)", a.x.sure(0, -1), -2);
        a.row(0, 1, 0, 2, 4);
        Asked.due("fell never", a.x.fell(0), 0);
        Asked.due("many", a.x.many(0), 0);
        Asked.due("sure of none", a.x.sure(0, 0), -1);
        a.row(0, 2, 0, 2, 1, 1, 1, 4);
        Asked.due("two fell", a.x.fell(0), third(1));
        Asked.due("sure of two", a.x.sure(0, 0), 1);
        a.row(0, 3);
        Asked.due("nobody fell", a.x.fell(0), ALL);
        Asked.due("many", a.x.many(0), 60);
        a.tell(Halls.BARE);
        Asked.due("nobody fell without EXITS", a.x.many(0), 60);
        a.row(0, 0, 0, 0, 0);
        Asked.due("fell without EXITS", a.x.fell(0), 0);
        Asked.due("sure without EXITS", a.x.sure(0, 0), -2);
    }

    private static void refusals() {
        Asked a = new Asked();
        a.row(0, 0, 0, 0, 0, 0, 0, 0);
        Asked.due("seen without a HALL", a.x.seen(0), -2);
        Asked.due("fell without a HALL", a.x.fell(0), -2);
        Asked.due("seen of nothing without a HALL", a.x.seen(1), -2);
        a.tell(Halls.RING);
        int[] noSlots = {-1, 4, 1};
        int[] due = {-2, -2, -6};
        for (int i = 0; i < 3; i++) {
            Asked.due("seen", a.x.seen(noSlots[i]), due[i]);
            Asked.due("ask", a.x.ask(noSlots[i]), due[i]);
            Asked.due("leaves", a.x.leaves(noSlots[i]), due[i]);
            Asked.due("fell", a.x.fell(noSlots[i]), due[i]);
            Asked.due("many", a.x.many(noSlots[i]), due[i]);
            Asked.due("sure", a.x.sure(noSlots[i], 0), due[i]);
        }
        a.row(0, 0, 0, 0, 0, 0);
        Asked.due("fell, not three each", a.x.fell(0), -2);
        Asked.due("many, not three each", a.x.many(0), -2);
        Asked.due("sure, not three each", a.x.sure(0, 0), -2);
        a.row(0, 0, 0, 0, 0);
        Asked.due("seen, not two each", a.x.seen(0), -2);
        Asked.due("ask, not two each", a.x.ask(0), -2);
        Asked.due("leaves, not two each", a.x.leaves(0), -2);
        long[][] noPairs = {{2, 0}, {-1, 0}, {0, 3}, {0, -1}, {0, 0, 0, Long.MIN_VALUE}, {Long.MAX_VALUE, 0}};
        for (long[] pair : noPairs) {
            a.row(0, 3, pair);
            Asked.due("a number is none", a.x.seen(0), -2);
            Asked.due("a number is none", a.x.ask(0), -2);
            Asked.due("a number is none", a.x.leaves(0), -2);
        }
        long[][] noTriples = {{2, 0, 0}, {-1, 0, 0}, {0, 3, 0}, {0, -1, 0}, {0, 0, 5}, {0, 0, -1}, {0, 0, 0, 0, 0, 9}};
        for (long[] triple : noTriples) {
            a.row(0, 3, triple);
            Asked.due("a number is none", a.x.fell(0), -2);
            Asked.due("a number is none", a.x.many(0), -2);
            Asked.due("a number is none", a.x.sure(0, 0), -2);
        }
    }
}
