/** Promises 19 to 27: steps out, and the LAW. */
public final class StepsTest {
    public static void main(String[] args) {
        ring();
        noGoodExit();
        lawOfZero();
        ties();
        Asked.close();
    }

    private static void ring() {
        Asked a = new Asked();
        a.tell(Halls.RING);
        MovingExits x = a.x;
        Asked.due("far(0, 0, 0)", x.far(0, 0, 0), 1);
        Asked.due("far(0, 2, 0)", x.far(0, 2, 0), 3);
        Asked.due("far(1, 2, 0)", x.far(1, 2, 0), 4);
        Asked.due("far(1, 2, 2)", x.far(1, 2, 2), 3);
        Asked.due("by(1, 2, 0)", x.by(1, 2, 0), 0);
        Asked.due("by(1, 2, 1)", x.by(1, 2, 1), 1);
        Asked.due("by(0, 1, 2)", x.by(0, 1, 2), 1);
        Asked.due("falls(0, 2, 0)", x.falls(0, 2, 0), 1);
        Asked.due("falls(0, 1, 0): the least", x.falls(0, 1, 0), 0);
        Asked.due("falls(1, 1, 1)", x.falls(1, 1, 1), 4);
        Asked.due("best(0)", x.best(0), 0);
        Asked.due("best(1)", x.best(1), 10);
        Asked.due("best(2): the first", x.best(2), 0);
        Asked.due("worst(0)", x.worst(0), 4);
        Asked.due("worst(2)", x.worst(2), 3);
        Asked.due("kept(0)", x.kept(0), 0);
        Asked.due("kept(2)", x.kept(2), 1);
        Asked.due("breaks(0)", x.breaks(0), 0);
        Asked.due("breaks(2)", x.breaks(2), 3);
        Asked.due("breaks(59)", x.breaks(59), -1);
        Asked.due("screws(0)", x.screws(0), 2);
        Asked.due("screws(2)", x.screws(2), 0);
        Asked.due("screws(57)", x.screws(57), 2);
        Asked.due("lawful()", x.lawful(), 20);
        int[] wrongActs = {-1, 60};
        for (int act : wrongActs) {
            Asked.due("far of ACT " + act, x.far(0, 0, act), -2);
            Asked.due("by of ACT " + act, x.by(0, 0, act), -2);
            Asked.due("falls of ACT " + act, x.falls(0, 0, act), -2);
            Asked.due("best of ACT " + act, x.best(act), -2);
            Asked.due("worst of ACT " + act, x.worst(act), -2);
            Asked.due("kept of ACT " + act, x.kept(act), -2);
            Asked.due("breaks of ACT " + act, x.breaks(act), -2);
            Asked.due("screws of ACT " + act, x.screws(act), -2);
        }
        int[][] wrongSeats = {{2, 0}, {0, 3}, {-1, 0}, {0, -1}};
        for (int[] seat : wrongSeats) {
            Asked.due("far of no SEAT", x.far(seat[0], seat[1], 0), -2);
            Asked.due("by of no SEAT", x.by(seat[0], seat[1], 0), -2);
            Asked.due("falls of no SEAT", x.falls(seat[0], seat[1], 0), -2);
        }
    }

    private static void noGoodExit() {
        Asked a = new Asked();
        a.tell("hall rows 1 seats 2 law 12;place 0 1 to 2 then 1;place 0 0 to 3 then 0;exit 0 wide 1;");
        Asked.due("far", a.x.far(0, 0, 0), -1);
        Asked.due("by", a.x.by(0, 0, 0), -1);
        Asked.due("falls to the stage", a.x.falls(0, 0, 0), 2);
        Asked.due("falls to the cloakroom", a.x.falls(0, 0, 1), 3);
        Asked.due("best", a.x.best(0), -1);
        Asked.due("worst", a.x.worst(0), -1);
        Asked.due("kept", a.x.kept(0), 0);
        Asked.due("breaks", a.x.breaks(7), 7);
        Asked.due("screws", a.x.screws(0), -1);
        Asked.due("lawful", a.x.lawful(), 0);
        a.tell(Halls.BARE);
        Asked.due("falls without EXITS", a.x.falls(0, 0, 0), -1);
        Asked.due("by without EXITS", a.x.by(0, 0, 0), -1);
        Asked.due("kept without EXITS", a.x.kept(0), 0);
    }

    private static void lawOfZero() {
        Asked a = new Asked();
        a.tell("hall rows 1 seats 1 law 0;place 0 0 to 0 then 0;exit 0 wide 1;");
        Asked.due("worst of one SEAT", a.x.worst(0), 1);
        Asked.due("kept with law 0", a.x.kept(0), 0);
        a.tell("hall rows 1 seats 1 law 1;place 0 0 to 4 then 0;exit 0 wide 1;");
        Asked.due("kept with law 1", a.x.kept(0), 1);
        Asked.due("breaks with law 1", a.x.breaks(0), -1);
        Asked.due("lawful with law 1", a.x.lawful(), 60);
        Asked.due("screws with law 1", a.x.screws(59), 0);
    }

    private static void ties() {
        Asked a = new Asked();
        a.tell("hall rows 6 seats 6 law 11;place 5 5 to 4 then 0;place 0 0 to 0 then 1;place 2 3 to 1 then 2;"
            + "exit 0 wide 1;exit 1 wide 1;exit 2 wide 1;");
        Asked.due("by, the least of several", a.x.by(0, 5, 0), 0);
        Asked.due("far", a.x.far(0, 5, 0), 6);
        Asked.due("far, not by the sea", a.x.far(2, 3, 0), 6);
        Asked.due("by, not by the sea", a.x.by(2, 3, 0), 0);
        Asked.due("falls to the sea", a.x.falls(2, 3, 0), 1);
        Asked.due("best, the first", a.x.best(0), 0);
        Asked.due("worst", a.x.worst(0), 6);
        Asked.due("the farthest", a.x.far(5, 5, 1), 1);
        a.tell("hall rows 6 seats 6 law 11;place 5 5 to 4 then 0;exit 0 wide 1;");
        Asked.due("the farthest of all", a.x.worst(0), 11);
        Asked.due("the LAW of it", a.x.kept(0), 1);
        Asked.due("the best", a.x.best(0), 55);
    }
}
