/** Promises 28 to 31: how many are out, and how soon. */
public final class RushTest {
    public static void main(String[] args) {
        ring();
        oneRow();
        wideExits();
        turnedAside();
        turnedAsideInTheCorner();
        nobody();
        fullHall();
        Asked.close();
    }

    private static void outs(MovingExits x, int act, int... due) {
        for (int n = 0; n < due.length; n++) {
            Asked.due("out(" + act + ", " + n + ")", x.out(act, n), due[n]);
        }
    }

    private static void ring() {
        Asked a = new Asked();
        a.tell(Halls.RING);
        outs(a.x, 0, 0, 0, 1, 2, 3, 3);
        outs(a.x, 1, 0, 0, 1, 3, 3);
        outs(a.x, 2, 0, 0, 2, 3);
        Asked.due("soonest(0)", a.x.soonest(0), 4);
        Asked.due("soonest(1)", a.x.soonest(1), 3);
        Asked.due("soonest(2)", a.x.soonest(2), 3);
        Asked.due("quickest(1)", a.x.quickest(1), 0);
        Asked.due("quickest(3), the first", a.x.quickest(3), 1);
        Asked.due("quickest(60)", a.x.quickest(60), 1);
        Asked.due("out(0, 20)", a.x.out(0, 20), 3);
        Asked.due("out(0, 21)", a.x.out(0, 21), -2);
        Asked.due("out(0, -1)", a.x.out(0, -1), -2);
        Asked.due("out(60, 1)", a.x.out(60, 1), -2);
        Asked.due("soonest(60)", a.x.soonest(60), -2);
        Asked.due("soonest(-1)", a.x.soonest(-1), -2);
        Asked.due("quickest(0)", a.x.quickest(0), -2);
        Asked.due("quickest(61)", a.x.quickest(61), -2);
        Asked.due("wider(0, 3, 0)", a.x.wider(0, 3, 0), 0);
        Asked.due("wider(0, 3, 1), a sea's", a.x.wider(0, 3, 1), 0);
        Asked.due("wider(0, 3, 2)", a.x.wider(0, 3, 2), -2);
        Asked.due("wider(0, 21, 0)", a.x.wider(0, 21, 0), -2);
        Asked.due("wider(0, -1, 0)", a.x.wider(0, -1, 0), -2);
        Asked.due("wider(60, 3, 0)", a.x.wider(60, 3, 0), -2);
    }

    private static void oneRow() {
        Asked a = new Asked();
        a.tell("hall rows 1 seats 6 law 1;place 0 0 to 0 then 0;exit 0 wide 3;"
            + "sits 0 0;sits 0 1;sits 0 2;sits 0 3;sits 0 4;sits 0 5;");
        // One by one: a wide EXIT does not help where one row is narrow.
        outs(a.x, 0, 0, 1, 2, 3, 4, 5, 6, 6);
        Asked.due("soonest", a.x.soonest(0), 6);
        Asked.due("wider", a.x.wider(0, 3, 0), 0);
    }

    private static void wideExits() {
        Asked a = new Asked();
        a.tell("hall rows 2 seats 2 law 1;place 0 0 to 4 then 1;place 1 1 to 0 then 1;"
            + "exit 0 wide 1;exit 1 wide 2;sits 0 1;sits 1 0;");
        a.x.screw(1, 8);
        outs(a.x, 0, 0, 0, 2);
        // Both EXITS are at one PLACE in ACT 1, three wide together.
        a.x.seats(0, 0, 1);
        Asked.due("in ACT 1", a.x.who(1, 1), 3);
        outs(a.x, 1, 0, 0, 2, 3);
        a.tell("hall rows 2 seats 2 law 1;place 0 0 to 4 then 0;exit 0 wide 1;sits 0 1;sits 1 0;");
        outs(a.x, 0, 0, 0, 1, 2);
        Asked.due("wider", a.x.wider(0, 2, 0), 1);
        Asked.due("wider in one MINUTE", a.x.wider(0, 1, 0), 0);
        Asked.due("wider in three", a.x.wider(0, 3, 0), 0);
        a.tell("hall rows 3 seats 3 law 1;place 1 1 to 4 then 0;exit 0 wide 3;sits 0 1;sits 1 0;sits 1 2;sits 2 1;");
        outs(a.x, 0, 0, 0, 3, 4);
        Asked.due("four wide", a.x.wider(0, 2, 0), 1);
    }

    private static void turnedAside() {
        Asked a = new Asked();
        // Who sits in the midst must leave the near EXIT to the one who can reach no other.
        a.tell("hall rows 1 seats 5 law 1;place 0 0 to 0 then 8;place 0 4 to 0 then 8;exit 0 wide 1;exit 1 wide 1;"
            + "sits 0 1;sits 0 2;sits 0 3;");
        outs(a.x, 0, 0, 0, 2, 3);
        a.tell("hall rows 2 seats 3 law 1;place 0 0 to 0 then 8;place 0 2 to 0 then 8;exit 0 wide 1;exit 1 wide 1;"
            + "sits 0 1;sits 1 0;");
        outs(a.x, 0, 0, 0, 2);
        a.tell("hall rows 2 seats 3 law 1;place 0 0 to 0 then 8;place 0 2 to 0 then 8;exit 0 wide 1;exit 1 wide 1;"
            + "sits 0 1;sits 1 2;");
        outs(a.x, 0, 0, 0, 2);
    }

    private static void turnedAsideInTheCorner() {
        Asked a = new Asked();
        // One in the first MINUTE and two in each other is the most there can be: who sits in the corner must make way for it.
        a.tell("hall rows 3 seats 6 law 0;place 2 0 to 0 then 8;exit 0 wide 1;place 1 1 to 0 then 8;exit 1 wide 1;"
            + "sits 0 0;sits 0 1;sits 0 3;sits 0 4;sits 0 5;sits 1 0;sits 1 2;sits 1 4;sits 1 5;sits 2 0;sits 2 1;sits 2 4;sits 2 5;");
        outs(a.x, 0, 0, 1, 3, 5, 7, 9, 11, 13, 13);
    }

    private static void nobody() {
        Asked a = new Asked();
        a.tell("hall rows 1 seats 1 law 1;");
        Asked.due("soonest of nobody", a.x.soonest(0), 0);
        Asked.due("quickest of nobody", a.x.quickest(60), 0);
        Asked.due("out of nobody", a.x.out(0, 20), 0);
        a.tell(Halls.BARE);
        Asked.due("soonest without EXITS", a.x.soonest(0), -1);
        Asked.due("quickest without EXITS", a.x.quickest(3), -1);
        Asked.due("out without EXITS", a.x.out(0, 20), 0);
        a.tell("hall rows 1 seats 1 law 1;place 0 0 to 1 then 0;exit 0 wide 3;sits 0 0;");
        Asked.due("soonest to the sea", a.x.soonest(0), -1);
        a.tell("hall rows 1 seats 1 law 1;place 0 0 to 0 then 0;exit 0 wide 1;sits 0 0;");
        Asked.due("soonest at the EXIT", a.x.soonest(0), 1);
    }

    private static void fullHall() {
        Asked a = new Asked();
        StringBuilder text = new StringBuilder("hall rows 6 seats 6 law 1;place 0 0 to 0 then 1;place 2 2 to 0 then 2;"
            + "place 5 5 to 4 then 0;exit 0 wide 1;");
        for (int i = 0; i < 36; i++) {
            text.append("sits " + i / 6 + " " + i % 6 + ";");
        }
        a.tell(text.toString());
        // A corner one wide: one in each MINUTE, 20 of 36 at most.
        outs(a.x, 0, 0, 1, 2, 3, 4, 5, 6, 7, 8, 9, 10, 11, 12, 13, 14, 15, 16, 17, 18, 19, 20);
        Asked.due("soonest", a.x.soonest(0), -1);
        Asked.due("quickest", a.x.quickest(60), -1);
        // Two wide, with two ways to it: one in the first MINUTE, two in each other.
        Asked.due("wider", a.x.wider(0, 18, 0), 17);
        Asked.due("wider", a.x.wider(0, 20, 0), 16);
        a.tell(text.toString().replace("exit 0 wide 1", "exit 0 wide 2"));
        outs(a.x, 0, 0, 1, 3, 5, 7);
        Asked.due("soonest two wide", a.x.soonest(0), 19);
        Asked.due("soonest in the midst", a.x.soonest(1), 19);
        a.tell(text.toString().replace("exit 0 wide 1", "exit 0 wide 3"));
        Asked.due("soonest three wide in a corner", a.x.soonest(0), 19);
        Asked.due("soonest three wide in the midst", a.x.soonest(1), 13);
        Asked.due("quickest", a.x.quickest(60), 1);
    }
}
