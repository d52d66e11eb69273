/** The bounds of III and of promises 19 to 27: the nearest and the farthest SEAT, the LAW kept and just not. */
public final class StepsBoundsTest {
    private static final String TWO = "hall rows 1 seats 2 law 2;";
    private static final String TO_THE_GOOD = TWO + "place 0 0 to 1 then 1;place 0 1 to 0 then 1;exit 0 wide 1";
    private static final String TO_THE_SEA = TWO + "place 0 0 to 0 then 1;place 0 1 to 1 then 1;exit 0 wide 1";

    public static void main(String[] args) {
        far();
        by();
        falls();
        best();
        worst();
        kept();
        firstAndLastActs();
        goodAreTheStreetAndTheGarden();
        Asked.close();
    }

    private static String corner(int row, int seat, int law) {
        return "hall rows 6 seats 6 law " + law + ";place " + row + " " + seat + " to 4 then 0;exit 0 wide 1;";
    }

    private static void far() {
        Bounds ring = new Bounds(Starts::ring);
        ring.of("far(.., 2, 59)", 0, 3, 1, 3, (x, row) -> x.far(row, 2, 59));
        ring.of("far(1, .., 0)", 0, 2, 2, 4, (x, seat) -> x.far(1, seat, 0));
        ring.of("far(1, 2, ..)", 0, 4, 59, 3, (x, act) -> x.far(1, 2, act));
        int[] ends = {0, 5};
        for (int row : ends) {
            for (int seat : ends) {
                MovingExits x = Starts.of(corner(row, seat, 0));
                Asked.due("the nearest", x.far(row, seat, 0), 1);
                Asked.due("the farthest", x.far(5 - row, 5 - seat, 0), 11);
                Asked.due("along the ROW", x.far(row, 5 - seat, 59), 6);
                Asked.due("along the SEAT", x.far(5 - row, seat, 59), 6);
            }
        }
        new Bounds(() -> Starts.of(Halls.BARE)).of("far(.., 0, 0) without EXITS", 0, -1, 0, -1, (x, row) -> x.far(row, 0, 0));
        Asked.due("far by none that is GOOD", Starts.of(TO_THE_GOOD + ";").far(0, 0, 0), -1);
    }

    private static void by() {
        Bounds ring = new Bounds(Starts::ring);
        ring.of("by(.., 2, 59)", 0, 1, 1, 0, (x, row) -> x.by(row, 2, 59));
        ring.of("by(1, .., 1)", 0, 1, 2, 1, (x, seat) -> x.by(1, seat, 1));
        ring.of("by(1, 2, ..)", 0, 0, 59, 0, (x, act) -> x.by(1, 2, act));
        Asked.due("by without EXITS", Starts.of(Halls.BARE).by(0, 0, 59), -1);
        Asked.due("by none that is GOOD", Starts.of(TO_THE_GOOD + ";").by(0, 0, 0), -1);
        // Seven EXITS as near as one another: the least of those that are GOOD.
        String seven = Halls.PLACES_OF_NINE + Halls.EXITS_OF_SEVEN;
        Asked.due("by the least of seven", Starts.of(seven.replaceAll("then \\d", "then 8")).by(0, 0, 1), 0);
        String last = seven.replace("to 0", "to 1").replace("place 2 0 to 1", "place 2 0 to 0");
        Asked.due("by the seventh, the one that is GOOD", Starts.of(last).by(0, 2, 0), 6);
        Asked.due("far by it", Starts.of(last).far(0, 2, 0), 5);
    }

    private static void falls() {
        Bounds ring = new Bounds(Starts::ring);
        ring.of("falls(.., 2, 59)", 0, 0, 1, 4, (x, row) -> x.falls(row, 2, 59));
        ring.of("falls(0, .., 0)", 0, 0, 2, 1, (x, seat) -> x.falls(0, seat, 0));
        ring.of("falls(1, 2, ..)", 0, 1, 59, 4, (x, act) -> x.falls(1, 2, act));
        Asked.due("falls without EXITS", Starts.of(Halls.BARE).falls(0, 0, 0), -1);
        for (int behind = 0; behind < 5; behind++) {
            String one = "hall rows 1 seats 1 law 0;place 0 0 to " + behind + " then 0;exit 0 wide 1;";
            Asked.due("falls to " + behind, Starts.of(one).falls(0, 0, 59), behind);
        }
        // As near as one another: the least EXIT, not the least PLACE, nor the good one.
        String even = "hall rows 1 seats 3 law 3;place 0 0 to 0 then 0;place 0 2 to 3 then 1;exit 1 wide 1;exit 0 wide 1;";
        Asked.due("falls by the least EXIT", Starts.of(even).falls(0, 1, 0), 3);
        Asked.due("by is not by it", Starts.of(even).by(0, 1, 0), 1);
        // Two in one PLACE lead to the same.
        Asked.due("falls in a PLACE of two", Starts.of(TO_THE_SEA + ";exit 1 wide 1;").falls(0, 0, 1), 1);
    }

    private static void best() {
        Bounds ring = new Bounds(Starts::ring);
        ring.of("best", 0, 0, 59, 0, MovingExits::best);
        Asked.due("best in the last corner", Starts.of(corner(5, 5, 0)).best(0), 55);
        Asked.due("best in the first corner", Starts.of(corner(0, 0, 0)).best(0), 0);
        Asked.due("best in ROW 5, SEAT 0", Starts.of(corner(5, 0, 0)).best(59), 50);
        Asked.due("best in ROW 0, SEAT 5", Starts.of(corner(0, 5, 0)).best(59), 5);
        Asked.due("best without EXITS", Starts.of(Halls.BARE).best(0), -1);
        Asked.due("best by none that is GOOD", Starts.of(TO_THE_GOOD + ";").best(0), -1);
        String two = "hall rows 2 seats 2 law 3;place 1 0 to 0 then 0;place 0 1 to 0 then 1;exit 0 wide 1;exit 1 wide 1;";
        Asked.due("best, the first of several SEATS", Starts.of(two).best(0), 1);
    }

    private static void worst() {
        Bounds ring = new Bounds(Starts::ring);
        ring.of("worst", 0, 4, 59, 3, MovingExits::worst);
        Asked.due("worst of one SEAT", Starts.of("hall rows 1 seats 1 law 0;place 0 0 to 0 then 0;exit 0 wide 1;").worst(0), 1);
        Asked.due("worst of all", Starts.of(corner(0, 0, 0)).worst(0), 11);
        Asked.due("worst without EXITS", Starts.of(Halls.BARE).worst(0), -1);
        Asked.due("worst by none that is GOOD", Starts.of(TO_THE_GOOD + ";").worst(0), -1);
        Asked.due("worst by the GOOD one then", Starts.of(TO_THE_GOOD + ";").worst(1), 2);
    }

    private static void kept() {
        Bounds ring = new Bounds(Starts::ring);
        ring.of("kept", 0, 0, 59, 1, MovingExits::kept);
        int[] laws = {0, 1, 10, 11, 12};
        for (int law : laws) {
            Asked.due("kept by law " + law, Starts.of(corner(5, 5, law)).kept(0), law >= 11 ? 1 : 0);
            Asked.due("lawful by law " + law, Starts.of(corner(0, 5, law)).lawful(), law >= 11 ? 60 : 0);
            String one = "hall rows 1 seats 1 law " + law + ";place 0 0 to 0 then 0;exit 0 wide 1;";
            Asked.due("kept of one SEAT by law " + law, Starts.of(one).kept(59), law >= 1 ? 1 : 0);
        }
        String none = Halls.BARE.replace("law 0", "law 12");
        Asked.due("kept without EXITS", Starts.of(none).kept(0), 0);
        Asked.due("kept by none that is GOOD", Starts.of(TO_THE_GOOD.replace("law 2", "law 12") + ";").kept(0), 0);
        // SEATS on which nobody sits count as well.
        Asked.due("kept though nobody sits", Starts.of(corner(5, 5, 10)).count(5), 0);
    }

    private static void firstAndLastActs() {
        Bounds ring = new Bounds(Starts::ring);
        ring.of("breaks", 0, 0, 59, -1, MovingExits::breaks);
        ring.of("screws", 0, 2, 59, 0, MovingExits::screws);
        ring.only("lawful()", 20, MovingExits::lawful);
        ring.only("breaks() from the ACT itself on", 4, x -> x.breaks(4));
        ring.only("breaks() in the next one", 6, x -> x.breaks(5));
        ring.only("screws() in the ACT itself", 0, x -> x.screws(5));
        ring.only("screws() in the ACT but one", 2, x -> x.screws(6));
        MovingExits good = Starts.of(TO_THE_GOOD + " king 0 to 58;");
        Asked.due("kept in the last ACT alone, screws(0)", good.screws(0), 59);
        Asked.due("kept in the last ACT alone, screws(59)", good.screws(59), 0);
        Asked.due("kept in the last ACT alone, breaks(58)", good.breaks(58), 58);
        Asked.due("kept in the last ACT alone, breaks(59)", good.breaks(59), -1);
        Asked.due("kept in the last ACT alone, lawful()", good.lawful(), 1);
        MovingExits bad = Starts.of(TO_THE_SEA + " king 0 to 58;");
        Asked.due("broken in the last ACT alone, breaks(0)", bad.breaks(0), 59);
        Asked.due("broken in the last ACT alone, breaks(59)", bad.breaks(59), 59);
        Asked.due("broken in the last ACT alone, screws(58)", bad.screws(58), 0);
        Asked.due("broken in the last ACT alone, screws(59)", bad.screws(59), -1);
        Asked.due("broken in the last ACT alone, lawful()", bad.lawful(), 59);
        MovingExits never = Starts.of(TO_THE_GOOD + " king 0 to 59;");
        Asked.due("never kept, screws(0)", never.screws(0), -1);
        Asked.due("never kept, lawful()", never.lawful(), 0);
        MovingExits always = Starts.of(TO_THE_SEA + " king 0 to 59;");
        Asked.due("always kept, breaks(0)", always.breaks(0), -1);
        Asked.due("always kept, lawful()", always.lawful(), 60);
    }

    private static void goodAreTheStreetAndTheGarden() {
        for (int behind = 0; behind < 5; behind++) {
            boolean good = behind == 0 || behind == 4;
            String one = "hall rows 1 seats 1 law 1;place 0 0 to " + behind + " then 0;exit 0 wide 1;sits 0 0;";
            MovingExits x = Starts.of(one);
            Asked.due("far to " + behind, x.far(0, 0, 0), good ? 1 : -1);
            Asked.due("kept to " + behind, x.kept(0), good ? 1 : 0);
            Asked.due("out to " + behind, x.out(0, 1), good ? 1 : 0);
            Asked.due("stand to " + behind, x.stand(1), good ? 1 : -1);
            Asked.due("known to " + behind, x.known(0, 0, 1), good ? 1 : 50);
            Asked.due("blind to " + behind, x.blind(0, 0, 1), good ? 1 : 50);
            Asked.due("claque to " + behind, x.claque(0, 0), good ? 0 : -1);
            Asked.due("lucky to " + behind, x.lucky(0, 1, 0), good ? 1 : 0);
        }
    }
}
