/** Promises 55 and 56: CROWDS drawn. */
public final class CrowdTest {
    public static void main(String[] args) {
        drawn();
        lucky();
        refusals();
        Asked.close();
    }

    private static void crowd(MovingExits x, int seed, int act, int... due) {
        for (int what = 0; what < 6; what++) {
            Asked.due("drawn(" + seed + ", " + act + ", " + what + ")", x.drawn(seed, act, what), due[what]);
        }
    }

    private static void drawn() {
        Asked a = new Asked();
        a.tell(Halls.RING);
        // Of two EXITS, seed 0 draws 0 0 0, seed 1: 0 0 1, seed 2: 0 1 1, seed 3: 1 1 1.
        crowd(a.x, 0, 0, 3, 0, 0, 0, 0, 9);
        crowd(a.x, 1, 0, 2, 1, 0, 0, 0, 7);
        crowd(a.x, 2, 0, 1, 2, 0, 0, 0, 7);
        crowd(a.x, 3, 0, 0, 3, 0, 0, 0, 7);
        crowd(a.x, 2000000000, 0, 1, 2, 0, 0, 0, 7);
        crowd(a.x, 2, 2, 2, 0, 0, 0, 1, 10);
        a.x.seats(0, 1, 0);
        // Who does not sit there takes no draw: 0 1 for the two that are left.
        crowd(a.x, 2, 0, 1, 1, 0, 0, 0, 5);
    }

    private static void lucky() {
        Asked a = new Asked();
        a.tell(Halls.RING);
        Asked.due("lucky(0, 1, 0)", a.x.lucky(0, 1, 0), 1);
        Asked.due("lucky(1, 6, 0)", a.x.lucky(1, 6, 0), 0);
        Asked.due("lucky(1, 7, 0)", a.x.lucky(1, 7, 0), 1);
        Asked.due("lucky(0, 13, 0)", a.x.lucky(0, 13, 0), 3);
        Asked.due("lucky(0, 20, 2)", a.x.lucky(0, 20, 2), 20);
        Asked.due("lucky(2000000000, 20, 0)", a.x.lucky(2000000000, 20, 0), LUCKY_OF_GREAT);
        a.x.seats(0, 1, 0);
        a.x.seats(1, 1, 0);
        a.x.seats(1, 2, 0);
        Asked.due("lucky of nobody", a.x.lucky(3, 20, 0), 20);
        crowd(a.x, 3, 0, 0, 0, 0, 0, 0, 0);
        a.tell("hall rows 1 seats 1 law 1;place 0 0 to 2 then 1;exit 0 wide 1;sits 0 0;");
        Asked.due("lucky on the stage", a.x.lucky(3, 20, 0), 0);
        a.tell("hall rows 1 seats 1 law 1;place 0 0 to 3 then 1;exit 0 wide 1;sits 0 0;");
        Asked.due("lucky in the cloakroom", a.x.lucky(3, 20, 0), 0);
    }

    private static final int LUCKY_OF_GREAT = 1;

    private static void refusals() {
        Asked a = new Asked();
        Asked.due("drawn without a HALL", a.x.drawn(0, 0, 0), -2);
        Asked.due("lucky without a HALL", a.x.lucky(0, 1, 0), -2);
        a.tell(Halls.BARE);
        Asked.due("drawn without EXITS", a.x.drawn(0, 0, 0), -2);
        Asked.due("lucky without EXITS", a.x.lucky(0, 1, 0), -2);
        a.tell(Halls.RING);
        Asked.due("drawn(-1, 0, 0)", a.x.drawn(-1, 0, 0), -2);
        Asked.due("drawn(2000000001, 0, 0)", a.x.drawn(2000000001, 0, 0), -2);
        Asked.due("drawn(0, 60, 0)", a.x.drawn(0, 60, 0), -2);
        Asked.due("drawn(0, -1, 0)", a.x.drawn(0, -1, 0), -2);
        Asked.due("drawn(0, 0, 6)", a.x.drawn(0, 0, 6), -2);
        Asked.due("drawn(0, 0, -1)", a.x.drawn(0, 0, -1), -2);
        Asked.due("lucky(-1, 1, 0)", a.x.lucky(-1, 1, 0), -2);
        Asked.due("lucky(2000000001, 1, 0)", a.x.lucky(2000000001, 1, 0), -2);
        Asked.due("lucky(0, 0, 0)", a.x.lucky(0, 0, 0), -2);
        Asked.due("lucky(0, 21, 0)", a.x.lucky(0, 21, 0), -2);
        Asked.due("lucky(0, 1, 60)", a.x.lucky(0, 1, 60), -2);
        Asked.due("lucky(0, 1, -1)", a.x.lucky(0, 1, -1), -2);
    }
}
