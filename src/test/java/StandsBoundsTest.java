/** The bounds of promises 32 to 36: no EXIT to seven of them, ACTS to the last, pairs that are none. */
public final class StandsBoundsTest {
    /** Of 25 SEATS none is farther than 2 steps from these seven, and no six PLACES do as much. */
    private static final int[][] SEVEN = {{0, 0}, {0, 2}, {1, 4}, {2, 1}, {3, 3}, {4, 0}, {4, 3}};
    /** Of 30 SEATS likewise these eight, and no seven. */
    private static final int[][] EIGHT = {{0, 0}, {1, 2}, {0, 4}, {2, 5}, {2, 0}, {3, 3}, {4, 1}, {4, 4}};

    public static void main(String[] args) {
        stand();
        stands();
        sevenAndEight();
        needsByLaw();
        wind();
        calmest();
        Asked.close();
    }

    private static String places(String hall, int[][] seats) {
        StringBuilder text = new StringBuilder(hall);
        for (int[] seat : seats) {
            text.append("place " + seat[0] + " " + seat[1] + " to 0 then 0;");
        }
        return text.toString();
    }

    private static void stand() {
        Bounds ring = new Bounds(Starts::ring);
        ring.of("stand", 0, -1, 7, 3, MovingExits::stand);
        ring.only("stand(1)", 4, x -> x.stand(1));
        MovingExits bare = Starts.of(Halls.BARE);
        MovingExits bad = Starts.of("hall rows 1 seats 1 law 3;place 0 0 to 1 then 0;exit 0 wide 1;");
        for (int n = 0; n <= 7; n++) {
            Asked.due("stand(" + n + ") without PLACES", bare.stand(n), -1);
            Asked.due("stands(" + n + ") without PLACES", bare.stands(n), -1);
            Asked.due("stand(" + n + ") without GOOD PLACES", bad.stand(n), -1);
            Asked.due("stands(" + n + ") without GOOD PLACES", bad.stands(n), -1);
        }
        MovingExits far = Starts.of("hall rows 6 seats 6 law 3;place 5 5 to 4 then 0;");
        Asked.due("the farthest, by one", far.stand(1), 11);
        Asked.due("the farthest, by seven or fewer", far.stand(7), 11);
        MovingExits near = Starts.of("hall rows 1 seats 1 law 3;place 0 0 to 4 then 0;");
        Asked.due("the nearest", near.stand(1), 1);
    }

    private static void stands() {
        Bounds ring = new Bounds(Starts::ring);
        ring.of("stands", 0, -1, 7, 5, MovingExits::stands);
        ring.only("stands(1), the least of two sets", 1, x -> x.stands(1));
        // The ninth PLACE alone is GOOD.
        String ninth = Halls.PLACES_OF_NINE.replace("to 0", "to 1").replace("place 2 2 to 1", "place 2 2 to 0");
        Asked.due("stands by the ninth", Starts.of(ninth).stands(1), 256);
        Asked.due("stand by the ninth", Starts.of(ninth).stand(7), 5);
        // Where EXITS are told to be does not matter, nor that there are none.
        Asked.due("stands with EXITS elsewhere", Starts.of(ninth + "exit 0 wide 1;").stands(1), 256);
        // Nine SEATS, each with a PLACE: seven leave two to be 2 steps off.
        MovingExits nine = Starts.of(Halls.PLACES_OF_NINE);
        int[] worst = {-1, 3, 3, 2, 2, 2, 2, 2};
        for (int n = 0; n <= 7; n++) {
            Asked.due("stand(" + n + ") of nine", nine.stand(n), worst[n]);
        }
        // With more EXITS the sets of fewer are there too: the least as bits of all that do.
        Asked.due("stands(1) of nine", nine.stands(1), 16);
        Asked.due("stands(2) of nine, the least for 3 steps", nine.stands(2), 12);
    }

    private static void sevenAndEight() {
        MovingExits seven = Starts.of(places("hall rows 5 seats 5 law 2;", SEVEN));
        Asked.due("stand(7), all of them", seven.stand(7), 2);
        Asked.due("stands(7), all of them", seven.stands(7), 127);
        Asked.due("stand(6)", seven.stand(6), 3);
        Asked.due("needs() seven", seven.needs(), 7);
        MovingExits eight = Starts.of(places("hall rows 5 seats 6 law 2;", EIGHT));
        Asked.due("stand(7) where eight do", eight.stand(7), 3);
        Asked.due("needs() more than seven", eight.needs(), -1);
        MovingExits lax = Starts.of(places("hall rows 5 seats 6 law 3;", EIGHT));
        Asked.due("needs() no more than seven by another law", lax.needs() > 0 && lax.needs() <= 7 ? 1 : 0, 1);
    }

    private static void needsByLaw() {
        new Bounds(Starts::ring).only("needs()", 2, MovingExits::needs);
        int[] due = {-1, -1, 3, 1, 1, 1, 1, 1, 1, 1, 1, 1, 1};
        for (int law = 0; law <= 12; law++) {
            // Nine SEATS: by law 1 nine would be wanted, by law 2 three do, by law 3 the midst does.
            MovingExits nine = Starts.of(Halls.PLACES_OF_NINE.replace("law 1", "law " + law));
            Asked.due("needs() of nine by law " + law, nine.needs(), due[law]);
        }
        for (int law = 10; law <= 12; law++) {
            MovingExits corner = Starts.of("hall rows 6 seats 6 law " + law + ";place 0 0 to 0 then 0;");
            Asked.due("needs() of the farthest by law " + law, corner.needs(), law >= 11 ? 1 : -1);
        }
        Asked.due("needs() without PLACES", Starts.of(Halls.BARE.replace("law 0", "law 12")).needs(), -1);
        MovingExits six = Starts.of(places("hall rows 1 seats 6 law 1;", new int[][] {{0, 0}, {0, 1}, {0, 2}, {0, 3}, {0, 4}, {0, 5}}));
        Asked.due("needs() all six", six.needs(), 6);
        Asked.due("stand(6)", six.stand(6), 1);
        Asked.due("stand(5)", six.stand(5), 2);
    }

    private static void wind() {
        Bounds ring = new Bounds(Starts::ring);
        ring.of("wind", 0, 1, 59, 1, MovingExits::wind);
        Asked.due("wind without EXITS", Starts.of(Halls.BARE).wind(59), 0);
        String one = Halls.PLACES_OF_NINE + "exit 0 wide 1;";
        Asked.due("wind of one EXIT", Starts.of(one).wind(0), 0);
        Asked.due("wind along a ROW", Starts.of(one + "exit 2 wide 1;").wind(0), 1);
        Asked.due("wind along a SEAT", Starts.of(one + "exit 6 wide 1;").wind(0), 1);
        Asked.due("no wind across", Starts.of(one + "exit 8 wide 1;").wind(0), 0);
        Asked.due("wind of three in a ROW", Starts.of(one + "exit 1 wide 1;exit 2 wide 1;").wind(0), 3);
        MovingExits seven = Starts.of((Halls.PLACES_OF_NINE + Halls.EXITS_OF_SEVEN).replaceAll("then \\d", "then 8"));
        Asked.due("wind of seven", seven.wind(0), 11);
        Asked.due("no wind in one PLACE", seven.wind(1), 0);
        // Two in one PLACE and one beside: two pairs.
        String three = "hall rows 1 seats 3 law 3;place 0 0 to 0 then 1;place 0 1 to 0 then 1;place 0 2 to 0 then 2;"
            + "exit 0 wide 1;exit 1 wide 1;exit 2 wide 1;";
        Asked.due("wind of three", Starts.of(three).wind(0), 3);
        Asked.due("wind of two in one PLACE and one", Starts.of(three).wind(1), 2);
    }

    private static void calmest() {
        Bounds ring = new Bounds(Starts::ring);
        ring.of("calmest", 1, 0, 60, 1, MovingExits::calmest);
        ring.only("calmest(2)", 1, x -> x.calmest(2));
        String two = "hall rows 2 seats 3 law 3;place 0 0 to 0 then 2;place 0 1 to 0 then 1;place 1 2 to 0 then 2;"
            + "exit 0 wide 1 king 0 to 58;exit 1 wide 1;";
        MovingExits last = Starts.of(two);
        Asked.due("calmest(59)", last.calmest(59), 0);
        Asked.due("calmest(60), the last one", last.calmest(60), 59);
        Asked.due("calmest(60), all alike", Starts.of(two.replace("58", "59")).calmest(60), 0);
        Asked.due("calmest(60) without EXITS", Starts.of(Halls.BARE).calmest(60), 0);
    }
}
