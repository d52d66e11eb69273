/** The bounds of promises 37 to 42: SLOTS and their numbers, rows of none and of 60, the first and the last ACT. */
public final class CluesBoundsTest {
    private static final long ALL = (1L << 60) - 1;
    /** ACTS 0, 3, .. 57. */
    private static final long THIRD = ALL / 7;
    /** The EXIT is at PLACE 0, behind which is the sea, in all ACTS but the last, in which it is at PLACE 1. */
    private static final String LAST_ACT = "hall rows 1 seats 2 law 2;place 0 0 to 1 then 1;place 0 1 to 0 then 1;"
        + "exit 0 wide 1 king 0 to 58;";

    /** One of the six calls that ask for a SLOT. */
    private interface Asking {
        long of(MovingExits x, int slot);
    }

    private static final Asking[] OF_PAIRS = {MovingExits::seen, MovingExits::ask, MovingExits::leaves};
    private static final Asking[] OF_TRIPLES = {MovingExits::fell, MovingExits::many, (x, slot) -> x.sure(slot, 0)};

    public static void main(String[] args) {
        slots();
        nothing();
        noHall();
        numbersOfPairs();
        numbersOfTriples();
        twoEach();
        threeEach();
        firstAndLastActs();
        ask();
        sure();
        exitsOfSure();
        Asked.close();
    }

    private static MovingExits ring(long... numbers) {
        return with(Halls.RING, 3, numbers);
    }

    private static MovingExits with(String text, int width, long... numbers) {
        Asked a = new Asked();
        a.tell(text);
        a.row(3, width, numbers);
        return a.x;
    }

    /** All three calls refuse a row, and it stays. */
    private static void refused(String name, Asking[] calls, long due, long... numbers) {
        Bounds bounds = new Bounds(() -> ring(numbers));
        for (Asking call : calls) {
            bounds.only(name, due, x -> call.of(x, 3));
        }
    }

    private static void slots() {
        Bounds ring = new Bounds(Starts::ring);
        for (Asking call : OF_PAIRS) {
            ring.beside("no such SLOT", 0, 3, -2, call::of);
        }
        for (Asking call : OF_TRIPLES) {
            ring.beside("no such SLOT", 0, 3, -2, call::of);
        }
        ring.only("seen(0)", THIRD << 1, x -> x.seen(0));
        ring.only("fell(1)", THIRD | THIRD << 1, x -> x.fell(1));
        MovingExits last = ring(0, 1);
        Asked.due("SLOT 3", last.leaves(3), 20);
        last = ring(0, 2, 1);
        Asked.due("SLOT 3", last.many(3), 40);
    }

    private static void nothing() {
        Bounds ring = new Bounds(Starts::ring);
        for (Asking call : OF_PAIRS) {
            ring.only("it has nothing", -6, x -> call.of(x, 3));
        }
        for (Asking call : OF_TRIPLES) {
            ring.only("it has nothing", -6, x -> call.of(x, 3));
        }
    }

    private static void noHall() {
        Bounds none = new Bounds(Starts::noHall);
        for (int i = -1; i <= 4; i++) {
            int slot = i;
            for (Asking call : OF_PAIRS) {
                none.only("SLOT " + slot + " without a HALL", -2, x -> call.of(x, slot));
            }
            for (Asking call : OF_TRIPLES) {
                none.only("SLOT " + slot + " without a HALL", -2, x -> call.of(x, slot));
            }
        }
    }

    private static void numbersOfPairs() {
        Asked.due("EXIT 0, PLACE 0", ring(0, 0).leaves(3), 20);
        Asked.due("EXIT 1, PLACE 2", ring(1, 2).leaves(3), 20);
        long[] noExits = {-1, 2, 60, 61, 127, 128, 255, 256, 1L << 32, Long.MIN_VALUE, Long.MAX_VALUE};
        for (long number : noExits) {
            refused("EXIT " + number, OF_PAIRS, -2, number, 0);
            refused("EXIT " + number + ", the last one", OF_PAIRS, -2, 0, 0, 1, 1, number, 0);
        }
        long[] noPlaces = {-1, 3, 9, 60, 61, 128, 256, 1L << 32, Long.MIN_VALUE, Long.MAX_VALUE};
        for (long number : noPlaces) {
            refused("PLACE " + number, OF_PAIRS, -2, 0, number);
            refused("PLACE " + number + ", the last one", OF_PAIRS, -2, 0, 0, 1, 1, 1, number);
        }
        // Though no ACT is left by the numbers ahead of it.
        refused("a number is none behind ones that never were", OF_PAIRS, -2, 0, 0, 0, 1, 2, 0);
        MovingExits full = with(Starts.FULL, 0, 6, 8);
        Asked.due("EXIT 6, PLACE 8", full.leaves(3), 7);
        Asked.due("PLACE 9 of nine", with(Starts.FULL, 0, 6, 9).seen(3), -2);
        Asked.due("EXIT 7 of seven", with(Starts.FULL, 0, 7, 8).seen(3), -2);
        Asked.due("an EXIT where there are none", with(Halls.BARE, 0, 0, 0).seen(3), -2);
    }

    private static void numbersOfTriples() {
        Asked.due("ROW 0, SEAT 0, the street", ring(0, 0, 0).many(3), 40);
        Asked.due("ROW 1, SEAT 2, the garden", ring(1, 2, 4).many(3), 20);
        long[] noRows = {-1, 2, 60, 61, 128, 256, 1L << 32, Long.MIN_VALUE, Long.MAX_VALUE};
        long[] noSeats = {-1, 3, 60, 61, 128, 256, 1L << 32, Long.MIN_VALUE, Long.MAX_VALUE};
        long[] noBehinds = {-1, 5, 60, 61, 128, 256, 1L << 32, Long.MIN_VALUE, Long.MAX_VALUE};
        for (int i = 0; i < noRows.length; i++) {
            refused("ROW " + noRows[i], OF_TRIPLES, -2, noRows[i], 0, 0);
            refused("SEAT " + noSeats[i], OF_TRIPLES, -2, 0, noSeats[i], 0);
            refused("BEHIND " + noBehinds[i], OF_TRIPLES, -2, 0, 0, noBehinds[i]);
            refused("BEHIND " + noBehinds[i] + ", the last one", OF_TRIPLES, -2, 0, 0, 0, 1, 2, noBehinds[i]);
        }
        refused("a number is none behind ones that never were", OF_TRIPLES, -2, 0, 0, 3, 2, 0, 0);
        for (int behind = 0; behind < 5; behind++) {
            Asked.due("BEHIND " + behind + " without EXITS", with(Halls.BARE, 0, 0, 0, behind).fell(3), 0);
        }
        Asked.due("ROW 5, SEAT 5 of 36", with(Starts.FULL, 0, 5, 5, 4).many(3) > 0 ? 1 : 0, 1);
        Asked.due("ROW 6 of six", with(Starts.FULL, 0, 6, 5, 4).many(3), -2);
        Asked.due("SEAT 6 of six", with(Starts.FULL, 0, 5, 6, 4).many(3), -2);
    }

    private static void twoEach() {
        for (int n = 0; n <= 60; n++) {
            MovingExits x = ring(new long[n]);
            boolean even = n % 2 == 0;
            Asked.due("seen of " + n, x.seen(3), even ? n == 0 ? ALL : THIRD : -2);
            Asked.due("ask of " + n, x.ask(3), even ? n == 0 ? 0 : -1 : -2);
            Asked.due("leaves of " + n, x.leaves(3), even ? 20 : -2);
        }
        // The last pair of 60 numbers counts as well.
        MovingExits x = ring(new long[60]);
        x.write(3, 59, 1);
        Asked.due("seen of the last pair", x.seen(3), 0);
        x.write(3, 59, 3);
        Asked.due("no such PLACE in the last pair", x.seen(3), -2);
    }

    private static void threeEach() {
        for (int n = 0; n <= 60; n++) {
            MovingExits x = ring(new long[n]);
            boolean triples = n % 3 == 0;
            Asked.due("many of " + n, x.many(3), triples ? n == 0 ? 60 : 40 : -2);
            Asked.due("fell of " + n, x.fell(3) < 0 ? -2 : 0, triples ? 0 : -2);
            Asked.due("sure of " + n, x.sure(3, 0), triples ? -1 : -2);
        }
        MovingExits x = ring(new long[60]);
        x.write(3, 59, 1);
        Asked.due("many of the last triple", x.many(3), 0);
        x.write(3, 59, 5);
        Asked.due("no such BEHIND in the last triple", x.many(3), -2);
    }

    private static void firstAndLastActs() {
        Asked.due("all ACTS but the last", with(LAST_ACT, 0, 0, 0).seen(3), ALL >> 1);
        Asked.due("the last ACT", with(LAST_ACT, 0, 0, 1).seen(3), 1L << 59);
        Asked.due("no ACT", with(LAST_ACT, 0, 0, 0, 0, 1).seen(3), 0);
        Asked.due("all ACTS", with(LAST_ACT, 0).seen(3), ALL);
        Asked.due("who fell in all ACTS but the last", with(LAST_ACT, 0, 0, 0, 1).fell(3), ALL >> 1);
        Asked.due("who fell in the last ACT", with(LAST_ACT, 0, 0, 0, 0).fell(3), 1L << 59);
        Asked.due("who fell in no ACT", with(LAST_ACT, 0, 0, 0, 4).fell(3), 0);
        Asked.due("nobody fell", with(LAST_ACT, 0).fell(3), ALL);
        Asked.due("many in the last ACT", with(LAST_ACT, 0, 0, 0, 0).many(3), 1);
        Asked.due("many in all ACTS but the last", with(LAST_ACT, 0, 0, 0, 1).many(3), 59);
        Asked.due("many without numbers", with(LAST_ACT, 0).many(3), 60);
        // ACT 0 alone: it goes at once, and stays where it comes.
        String first = LAST_ACT.replace(" king 0 to 58", "");
        Asked.due("the first ACT", with(first, 0, 0, 0).seen(3), 1);
        Asked.due("who fell in the first ACT", with(first, 0, 0, 0, 1).fell(3), 1);
    }

    private static void ask() {
        MovingExits one = with(LAST_ACT, 0);
        Asked.due("ask leaves one ACT fewer", one.ask(3), 0);
        Asked.due("leaves all but one", one.leaves(3), 59);
        MovingExits last = with(LAST_ACT, 0, 0, 1);
        Asked.due("ask of one ACT", last.ask(3), -1);
        Asked.due("leaves one ACT", last.leaves(3), 1);
        MovingExits none = with(LAST_ACT, 0, 0, 0, 0, 1);
        Asked.due("ask of no ACTS", none.ask(3), -1);
        Asked.due("leaves no ACTS", none.leaves(3), 0);
        MovingExits stays = with(LAST_ACT.replace("58", "59"), 0);
        Asked.due("ask where nothing moves", stays.ask(3), -1);
        Asked.due("leaves as now", stays.leaves(3), 60);
        MovingExits bare = with(Halls.BARE, 0);
        Asked.due("ask without EXITS", bare.ask(3), -1);
        Asked.due("leaves as now without EXITS", bare.leaves(3), 60);
        // Seven that are as good as one another: the first; the seventh, if it alone moves.
        MovingExits seven = with(Starts.FULL, 0);
        Asked.due("ask the first of seven", seven.ask(3), 0);
        Asked.due("leaves at worst", seven.leaves(3), 7);
        String still = (Halls.PLACES_OF_NINE + Halls.EXITS_OF_SEVEN).replaceAll("exit (\\d) wide 1", "exit $1 wide 1 king 0 to 59");
        MovingExits seventh = with(still.replace("exit 6 wide 1 king 0 to 59", "exit 6 wide 1"), 0);
        Asked.due("ask the seventh", seventh.ask(3), 6);
        Asked.due("leaves by the seventh", seventh.leaves(3), 20);
    }

    private static void sure() {
        Asked.due("sure in one ACT", with(LAST_ACT, 0, 0, 0, 0).sure(3, 0), 1);
        Asked.due("sure in 59 ACTS", with(LAST_ACT, 0, 0, 0, 1).sure(3, 0), 0);
        String first = LAST_ACT.replace(" king 0 to 58", "");
        Asked.due("sure in the first ACT", with(first, 0, 0, 0, 1).sure(3, 0), 0);
        Asked.due("unlike ones, but for the first ACT", with(first, 0).sure(3, 0), -1);
        Asked.due("unlike ones in 60 ACTS", with(LAST_ACT, 0).sure(3, 0), -1);
        Asked.due("no such ACTS", with(LAST_ACT, 0, 0, 0, 4).sure(3, 0), -1);
        Asked.due("sure in all ACTS", with(LAST_ACT.replace("58", "59"), 0).sure(3, 0), 0);
        String ninth = Halls.PLACES_OF_NINE.replace("then 0;", "then 8;") + "exit 8 wide 1;";
        Asked.due("sure at the ninth PLACE", with(ninth, 0).sure(3, 0), 8);
    }

    private static void exitsOfSure() {
        new Bounds(() -> ring(0, 2, 0)).of("sure(3, ..)", 0, 2, 1, 0, (x, exit) -> x.sure(3, exit));
        new Bounds(() -> with(Starts.FULL, 0)).of("sure(3, ..) of seven", 0, -1, 6, -1, (x, exit) -> x.sure(3, exit));
        Asked.due("sure without EXITS", with(Halls.BARE, 0).sure(3, 0), -2);
        // Wrong in two ways.
        Asked.due("no such EXIT, no such SLOT", ring(0, 2, 0).sure(4, 2), -2);
        Asked.due("no such EXIT, not three each", ring(0, 2).sure(3, 2), -2);
    }
}
