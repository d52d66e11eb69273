/** The bounds of V, VI and of promises 43 to 50: one ACT to all, no way out, who is never lured, and 60 goes. */
public final class HabitsBoundsTest {
    /** The EXIT leads to the sea in all ACTS but the last, in which it leads to the street. */
    private static final String LAST_ACT = "hall rows 1 seats 2 law 2;place 0 0 to 1 then 1;place 0 1 to 0 then 1;"
        + "exit 0 wide 1 king 0 to 58;sits 0 0;";

    public static void main(String[] args) {
        known();
        blind();
        goes();
        worth();
        fifty();
        lured();
        danger();
        claque();
        sixtyGoes();
        Asked.close();
    }

    private static void known() {
        Bounds ring = new Bounds(Starts::ring);
        ring.of("known(.., 2, 1)", 0, 3, 1, 4, (x, row) -> x.known(row, 2, 1));
        ring.of("known(1, .., 1)", 0, 2, 2, 4, (x, seat) -> x.known(1, seat, 1));
        ring.of("known(1, 2, ..)", 1, 4, 60, 200, (x, n) -> x.known(1, 2, n));
        Asked.due("known of one SEAT without EXITS", Starts.of(Halls.BARE).known(0, 0, 60), 3000);
    }

    private static void blind() {
        Bounds ring = new Bounds(Starts::ring);
        ring.of("blind(.., 2, 1)", 0, 3, 1, 4, (x, row) -> x.blind(row, 2, 1));
        ring.of("blind(1, .., 1)", 0, 2, 2, 4, (x, seat) -> x.blind(1, seat, 1));
        // PLACE 2 has an EXIT in two ACTS of three, 3 steps off.
        ring.of("blind(1, 2, ..)", 1, 4, 60, 40 * 3 + 20 * 50, (x, n) -> x.blind(1, 2, n));
        Bounds bare = new Bounds(() -> Starts.of(Halls.BARE));
        bare.only("blind without PLACES", -2, x -> x.blind(0, 0, 1));
        bare.only("goes without PLACES", -2, x -> x.goes(0, 0, 1));
        bare.only("worth without PLACES", -2, x -> x.worth(1));
        Asked.due("blind without EXITS", Starts.of("hall rows 1 seats 1 law 0;place 0 0 to 0 then 0;").blind(0, 0, 60), 3000);
    }

    private static void goes() {
        Bounds ring = new Bounds(Starts::ring);
        ring.of("goes(.., 2, 1)", 0, 0, 1, 0, (x, row) -> x.goes(row, 2, 1));
        ring.of("goes(1, .., 3)", 0, 2, 2, 2, (x, seat) -> x.goes(1, seat, 3));
        ring.of("goes(1, 2, ..)", 1, 0, 60, 2, (x, n) -> x.goes(1, 2, n));
        Asked.due("goes to the first without EXITS",
            Starts.of("hall rows 1 seats 2 law 0;place 0 1 to 0 then 0;place 0 0 to 0 then 0;").goes(0, 0, 60), 0);
        String ninth = Halls.PLACES_OF_NINE + "exit 8 wide 1 king 0 to 59;";
        Asked.due("goes to the ninth", Starts.of(ninth).goes(0, 0, 60), 8);
        Asked.due("goes to the first of nine that is as good", Starts.of(Starts.FULL).goes(2, 0, 9), 0);
    }

    private static void worth() {
        Bounds ring = new Bounds(Starts::ring);
        ring.of("worth", 1, 0, 60, 20 * (47 + 47 + 46), MovingExits::worth);
        MovingExits nobody = Starts.of("hall rows 1 seats 1 law 0;place 0 0 to 0 then 0;exit 0 wide 1;");
        Asked.due("worth for nobody", nobody.worth(60), 0);
        nobody.seats(0, 0, 1);
        Asked.due("worth where nothing moves", nobody.worth(60), 0);
        // All 36 go by one EXIT that is in each of two corners by turns.
        MovingExits all = Starts.of("hall rows 6 seats 6 law 0;place 0 0 to 0 then 1;place 5 5 to 0 then 0;exit 0 wide 1;"
            + Starts.everySeat(6, 6));
        int blindSteps = 0;
        int knownSteps = 0;
        for (int seat = 0; seat < 36; seat++) {
            int there = seat / 6 + seat % 6 + 1;
            int back = 12 - there;
            blindSteps += 30 * (50 + Math.min(there, back));
            knownSteps += 30 * (there + back);
        }
        Asked.due("worth for all", all.worth(60), blindSteps - knownSteps);
    }

    private static void fifty() {
        MovingExits last = Starts.of(LAST_ACT);
        Asked.due("known ahead of the last ACT", last.known(0, 0, 59), 59 * 50);
        Asked.due("known with the last ACT", last.known(0, 0, 60), 59 * 50 + 2);
        Asked.due("blind ahead of the last ACT", last.blind(0, 0, 59), 59 * 50);
        Asked.due("goes ahead of the last ACT, the first", last.goes(0, 0, 59), 0);
        Asked.due("blind with the last ACT", last.blind(0, 0, 60), 59 * 50 + 2);
        Asked.due("goes with the last ACT", last.goes(0, 0, 60), 1);
        Asked.due("worth", last.worth(60), 0);
        // The farthest is 11 steps off: 50 is never better than an EXIT.
        MovingExits far = Starts.of("hall rows 6 seats 6 law 0;place 0 0 to 1 then 0;place 5 5 to 0 then 1;exit 1 wide 1;");
        Asked.due("the farthest", far.blind(0, 0, 60), 660);
        Asked.due("it goes there", far.goes(0, 0, 60), 1);
        // An EXIT that is there, but leads to the sea in the PLACE, counts as none.
        MovingExits sea = Starts.of("hall rows 1 seats 2 law 0;place 0 0 to 1 then 0;place 0 1 to 4 then 1;exit 0 wide 1;");
        Asked.due("blind by the sea", sea.blind(0, 0, 2), 100);
    }

    private static void lured() {
        Bounds ring = new Bounds(Starts::ring);
        ring.of("lured(.., 0)", 0, 2, 59, 1, (x, act) -> x.lured(act, 0));
        ring.of("lured(59, ..)", 0, 1, 4, 2, (x, behind) -> x.lured(59, behind));
        Asked.due("lured without EXITS", Starts.of(Halls.BARE).lured(0, 0), 0);
        MovingExits all = Starts.of("hall rows 6 seats 6 law 0;place 0 0 to 2 then 1;exit 0 wide 1;" + Starts.everySeat(6, 6));
        Asked.due("all are lured", all.lured(59, 2), 36);
        Asked.due("none is lured elsewhere", all.lured(59, 0), 0);
        MovingExits nobody = Starts.of("hall rows 6 seats 6 law 0;place 0 0 to 2 then 1;exit 0 wide 1;");
        Asked.due("nobody is lured", nobody.lured(0, 2), 0);
    }

    private static void danger() {
        Bounds ring = new Bounds(Starts::ring);
        ring.of("danger", 0, 0, 4, 2, MovingExits::danger);
        ring.only("danger of the stage, never any", 0, x -> x.danger(2));
        MovingExits last = Starts.of(LAST_ACT);
        Asked.due("danger in the last ACT", last.danger(0), 59);
        Asked.due("danger, the first of several", last.danger(1), 0);
        Asked.due("danger, never any", last.danger(3), 0);
        last.seats(0, 0, 0);
        Asked.due("danger of nobody", last.danger(0), 0);
        Asked.due("danger without EXITS", Starts.of(Halls.BARE).danger(0), 0);
    }

    private static void claque() {
        Bounds ring = new Bounds(Starts::ring);
        ring.of("claque(.., 0)", 0, 0, 1, 2, (x, exit) -> x.claque(exit, 0));
        ring.of("claque(0, ..)", 0, 0, 59, 0, (x, act) -> x.claque(0, act));
        ring.of("lastly(.., 0)", 0, 0, 1, 0, (x, exit) -> x.lastly(exit, 0));
        ring.of("lastly(0, ..)", 0, 0, 59, 2, (x, act) -> x.lastly(0, act));
        Bounds full = new Bounds(() -> Starts.of(Starts.FULL));
        full.of("claque(.., 0) of seven", 0, 0, 6, 1, (x, exit) -> x.claque(exit, 0));
        full.of("lastly(.., 0) of seven", 0, 0, 6, 1, (x, exit) -> x.lastly(exit, 0));
        // One EXIT alone is the next one too; behind ACT 59 comes ACT 0.
        MovingExits alone = Starts.of("hall rows 1 seats 2 law 0;place 0 0 to 4 then 1;place 0 1 to 2 then 1;exit 0 wide 1;");
        Asked.due("in the ACT itself", alone.claque(0, 0), 0);
        Asked.due("the 60th go", alone.claque(0, 1), 59);
        Asked.due("the PLACE of the 60th go", alone.lastly(0, 1), 0);
        Asked.due("the second go, in ACT 0", alone.claque(0, 59), 1);
        Asked.due("its PLACE", alone.lastly(0, 59), 0);
    }

    private static void sixtyGoes() {
        // EXIT 4 alone is ever GOOD, and that in ACT 0.
        StringBuilder text = new StringBuilder("hall rows 3 seats 3 law 0;");
        for (int place = 0; place < 8; place++) {
            int to = place == 4 ? 0 : 1 + place % 3;
            text.append("place " + place / 3 + " " + place % 3 + " to " + to + " then " + (place == 4 ? 7 : place) + ";");
        }
        MovingExits x = Starts.of(text + Halls.EXITS_OF_SEVEN);
        for (int exit = 0; exit < 7; exit++) {
            for (int act = 0; act < 60; act++) {
                // It comes to ACT 0 by so many goes, and to EXIT 4 with them, or never in 60.
                int goes = (60 - act) % 60;
                boolean meets = (exit + goes) % 7 == 4;
                Asked.due("claque(" + exit + ", " + act + ")", x.claque(exit, act), meets ? goes : -1);
                if (act < 3 || act > 57) {
                    Asked.due("lastly(" + exit + ", " + act + ")", x.lastly(exit, act), meets ? 4 : -1);
                }
            }
        }
        MovingExits again = Starts.of(text + Halls.EXITS_OF_SEVEN);
        Asked.due("the 60th go", again.claque(1, 1), 59);
        Asked.due("the 61st go would be the one", again.claque(0, 0), -1);
        Asked.due("lastly of the 61st", again.lastly(0, 0), -1);
        Asked.due("from EXIT 6 on to EXIT 0 and on", again.claque(6, 55), 5);
    }
}
