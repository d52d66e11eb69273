/** The bounds of VII and of promises 55 and 56: seeds, draws of one EXIT to seven, crowds of nobody and of all. */
public final class CrowdBoundsTest {
    /** Reckoned apart from the program, of the words of VII: twelve draws of 1 .. 7 from seed 0, and from the greatest one. */
    private static final int[][] OF_NOTHING = {
        {0, 0, 0, 0, 0, 0, 0, 0, 0, 0, 0, 0}, {0, 0, 0, 1, 0, 1, 1, 1, 0, 0, 1, 0}, {0, 0, 1, 1, 0, 1, 1, 1, 2, 1, 0, 1},
        {0, 0, 0, 1, 2, 3, 1, 1, 2, 2, 1, 0}, {0, 3, 3, 2, 3, 2, 0, 1, 2, 0, 1, 2}, {0, 0, 4, 1, 0, 1, 1, 1, 2, 4, 3, 4},
        {0, 6, 6, 4, 5, 1, 1, 1, 5, 3, 4, 4}};
    private static final int[][] OF_THE_GREATEST = {
        {0, 0, 0, 0, 0, 0, 0, 0, 0, 0, 0, 0}, {0, 1, 1, 1, 0, 0, 1, 1, 1, 0, 1, 0}, {1, 2, 2, 1, 2, 0, 1, 0, 1, 0, 0, 0},
        {0, 1, 1, 3, 2, 0, 1, 1, 3, 2, 3, 2}, {4, 3, 1, 2, 1, 2, 2, 2, 0, 4, 2, 0}, {4, 5, 5, 1, 2, 0, 1, 3, 1, 0, 3, 0},
        {0, 0, 1, 4, 3, 2, 6, 2, 5, 6, 6, 4}};
    private static final int GREATEST = 2000000000;

    public static void main(String[] args) {
        drawn();
        lucky();
        drawsOfOneToSeven();
        rowByRow();
        oneMoreSeed();
        eachThatIsNotGood();
        noExits();
        nobodyAndAll();
        Asked.close();
    }

    private static void drawn() {
        Bounds ring = new Bounds(Starts::ring);
        ring.of("drawn(.., 0, 1)", 0, 0, GREATEST, 2, (x, seed) -> x.drawn(seed, 0, 1));
        ring.of("drawn(3, .., 0)", 0, 0, 59, 3, (x, act) -> x.drawn(3, act, 0));
        ring.of("drawn(0, 0, ..)", 0, 3, 5, 9, (x, what) -> x.drawn(0, 0, what));
        ring.only("drawn(0, 59, 4), the last BEHIND", 3, x -> x.drawn(0, 59, 4));
    }

    private static void lucky() {
        Bounds ring = new Bounds(Starts::ring);
        ring.of("lucky(.., 20, 0)", 0, 4, GREATEST, 1, (x, seed) -> x.lucky(seed, 20, 0));
        ring.of("lucky(0, .., 0)", 1, 1, 20, 4, (x, n) -> x.lucky(0, n, 0));
        ring.of("lucky(0, 9, ..)", 0, 3, 59, 9, (x, act) -> x.lucky(0, 9, act));
    }

    /** Twelve sit in two ROWS, with so many EXITS along the first one and the last two behind them. */
    private static String twelve(int exits) {
        StringBuilder text = new StringBuilder("hall rows 2 seats 6 law 0;");
        for (int i = 0; i < exits; i++) {
            text.append("place " + i / 6 + " " + i % 6 + " to " + i % 5 + " then " + i + ";exit " + i + " wide 1;");
        }
        return text + Starts.everySeat(2, 6);
    }

    private static void drawsOfOneToSeven() {
        for (int exits = 1; exits <= 7; exits++) {
            crowd(exits, 0, OF_NOTHING[exits - 1]);
            crowd(exits, GREATEST, OF_THE_GREATEST[exits - 1]);
        }
    }

    private static void crowd(int exits, int seed, int[] draws) {
        int[] due = new int[6];
        for (int seat = 0; seat < draws.length; seat++) {
            int exit = draws[seat];
            due[exit % 5]++;
            due[5] += Math.abs(seat / 6 - exit / 6) + Math.abs(seat % 6 - exit % 6) + 1;
        }
        MovingExits x = Starts.of(twelve(exits));
        for (int what = 0; what <= 5; what++) {
            Asked.due("drawn(" + seed + ", 0, " + what + ") of " + exits, x.drawn(seed, 0, what), due[what]);
            Asked.due("drawn(" + seed + ", 59, " + what + ") of " + exits, x.drawn(seed, 59, what), due[what]);
        }
    }

    private static void rowByRow() {
        // Of two, seed 2 draws 0 1 for the first two who sit, wherever there is nobody between.
        int[][] both = {{0, 0, 0, 1}, {0, 1, 1, 0}, {0, 0, 1, 1}, {0, 1, 1, 1}};
        for (int[] seats : both) {
            String text = "hall rows 2 seats 2 law 0;place 0 0 to 0 then 0;place 1 1 to 1 then 1;exit 0 wide 1;exit 1 wide 1;"
                + "sits " + seats[2] + " " + seats[3] + ";sits " + seats[0] + " " + seats[1] + ";";
            MovingExits x = Starts.of(text);
            int first = seats[0] + seats[1] + 1;
            int second = 2 - seats[2] - seats[3] + 1;
            Asked.due("steps of " + text, x.drawn(2, 0, 5), first + second);
            Asked.due("one to the street", x.drawn(2, 0, 0), 1);
            Asked.due("one to the sea", x.drawn(2, 0, 1), 1);
        }
    }

    private static void oneMoreSeed() {
        int[] ofNothing = {1, 1, 1, 1, 1, 1, 1, 2, 3, 3, 3, 3, 3, 3, 4, 4, 4, 4, 4, 4};
        int[] ofTheGreatest = {0, 0, 0, 0, 0, 0, 0, 0, 0, 0, 0, 0, 0, 0, 1, 1, 1, 1, 1, 1};
        MovingExits x = Starts.of(Halls.RING);
        for (int n = 1; n <= 20; n++) {
            Asked.due("lucky(0, " + n + ", 0)", x.lucky(0, n, 0), ofNothing[n - 1]);
            // Those behind the greatest seed are drawn from as well.
            Asked.due("lucky(GREATEST, " + n + ", 0)", x.lucky(GREATEST, n, 0), ofTheGreatest[n - 1]);
        }
    }

    private static void eachThatIsNotGood() {
        // Of two, seed 2 draws 0 1: one comes to each.
        for (int one = 0; one < 5; one++) {
            for (int other = 0; other < 5; other++) {
                MovingExits x = Starts.of("hall rows 1 seats 2 law 0;place 0 0 to " + one + " then 0;place 0 1 to " + other
                    + " then 1;exit 0 wide 1;exit 1 wide 1;sits 0 0;sits 0 1;");
                boolean good = one % 4 == 0 && other % 4 == 0;
                Asked.due("lucky by " + one + " and " + other, x.lucky(2, 1, 0), good ? 1 : 0);
                Asked.due("drawn to " + one, x.drawn(2, 0, one), one == other ? 2 : 1);
            }
        }
    }

    private static void noExits() {
        Bounds bare = new Bounds(() -> Starts.of(Halls.BARE));
        bare.only("drawn without EXITS", -2, x -> x.drawn(0, 0, 0));
        bare.only("lucky without EXITS", -2, x -> x.lucky(0, 1, 0));
        Bounds places = new Bounds(() -> Starts.of("hall rows 1 seats 1 law 0;place 0 0 to 0 then 0;sits 0 0;"));
        places.only("drawn with a PLACE alone", -2, x -> x.drawn(0, 0, 5));
        places.only("lucky with a PLACE alone", -2, x -> x.lucky(0, 20, 0));
        Bounds none = new Bounds(Starts::noHall);
        none.only("drawn without a HALL", -2, x -> x.drawn(0, 0, 0));
        none.only("lucky without a HALL", -2, x -> x.lucky(0, 1, 0));
    }

    private static void nobodyAndAll() {
        MovingExits nobody = Starts.of("hall rows 6 seats 6 law 0;place 0 0 to 1 then 0;exit 0 wide 1;");
        for (int what = 0; what <= 5; what++) {
            Asked.due("nobody is drawn", nobody.drawn(GREATEST, 59, what), 0);
        }
        Asked.due("nobody is always lucky", nobody.lucky(0, 20, 0), 20);
        MovingExits all = Starts.of("hall rows 6 seats 6 law 0;place 0 0 to 1 then 0;exit 0 wide 1;" + Starts.everySeat(6, 6));
        Asked.due("all are drawn to the one", all.drawn(GREATEST, 59, 1), 36);
        Asked.due("their steps", all.drawn(GREATEST, 59, 5), 36 * 6);
        Asked.due("all are never lucky", all.lucky(0, 20, 0), 0);
        MovingExits full = Starts.of(Starts.FULL);
        int together = 0;
        for (int behind = 0; behind < 5; behind++) {
            together += full.drawn(7, 0, behind);
        }
        Asked.due("all come somewhere", together, 36);
    }
}
