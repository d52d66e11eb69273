/** Promises 43 to 50: what it is worth to know, who is lured where, and CLAQUES. */
public final class HabitsTest {
    public static void main(String[] args) {
        knowing();
        neverGood();
        luring();
        claques();
        Asked.close();
    }

    private static void knowing() {
        Asked a = new Asked();
        a.tell(Halls.RING);
        Asked.due("known(1, 2, 1)", a.x.known(1, 2, 1), 4);
        Asked.due("known(1, 2, 3)", a.x.known(1, 2, 3), 10);
        Asked.due("known(1, 2, 60)", a.x.known(1, 2, 60), 200);
        Asked.due("blind(1, 2, 1)", a.x.blind(1, 2, 1), 4);
        Asked.due("goes(1, 2, 1)", a.x.goes(1, 2, 1), 0);
        Asked.due("blind(1, 2, 3)", a.x.blind(1, 2, 3), 56);
        Asked.due("goes(1, 2, 3)", a.x.goes(1, 2, 3), 2);
        Asked.due("worth(3)", a.x.worth(3), 47 + 47 + 46);
        Asked.due("worth(1)", a.x.worth(1), 0);
        int[] wrong = {0, -1, 61};
        for (int n : wrong) {
            Asked.due("known of n " + n, a.x.known(0, 0, n), -2);
            Asked.due("blind of n " + n, a.x.blind(0, 0, n), -2);
            Asked.due("goes of n " + n, a.x.goes(0, 0, n), -2);
            Asked.due("worth of n " + n, a.x.worth(n), -2);
        }
        int[][] seats = {{2, 0}, {0, 3}, {-1, 0}, {0, -1}};
        for (int[] seat : seats) {
            Asked.due("known of no SEAT", a.x.known(seat[0], seat[1], 1), -2);
            Asked.due("blind of no SEAT", a.x.blind(seat[0], seat[1], 1), -2);
            Asked.due("goes of no SEAT", a.x.goes(seat[0], seat[1], 1), -2);
        }
        // Both ends are as good: the first.
        a.tell("hall rows 1 seats 3 law 1;place 0 0 to 0 then 1;place 0 2 to 0 then 0;exit 0 wide 1;sits 0 1;");
        Asked.due("goes to the first", a.x.goes(0, 1, 2), 0);
        Asked.due("blind", a.x.blind(0, 1, 2), 52);
        Asked.due("known", a.x.known(0, 1, 2), 4);
        Asked.due("worth", a.x.worth(2), 48);
        Asked.due("worth(60)", a.x.worth(60), 60 * 24);
    }

    private static void neverGood() {
        Asked a = new Asked();
        a.tell(Halls.BARE);
        Asked.due("known without EXITS", a.x.known(0, 0, 2), 100);
        Asked.due("blind without PLACES", a.x.blind(0, 0, 2), -2);
        Asked.due("goes without PLACES", a.x.goes(0, 0, 2), -2);
        Asked.due("worth without PLACES", a.x.worth(2), -2);
        a.tell("hall rows 1 seats 1 law 1;place 0 0 to 1 then 0;exit 0 wide 1;sits 0 0;");
        Asked.due("blind to the sea", a.x.blind(0, 0, 3), 150);
        Asked.due("known to the sea", a.x.known(0, 0, 3), 150);
        Asked.due("goes to the sea", a.x.goes(0, 0, 3), 0);
        Asked.due("worth of the sea", a.x.worth(3), 0);
    }

    private static void luring() {
        Asked a = new Asked();
        a.tell(Halls.RING);
        Asked.due("lured(0, 1)", a.x.lured(0, 1), 1);
        Asked.due("lured(1, 1)", a.x.lured(1, 1), 2);
        Asked.due("lured(2, 1)", a.x.lured(2, 1), 0);
        Asked.due("lured(0, 0)", a.x.lured(0, 0), 2);
        Asked.due("lured(1, 4)", a.x.lured(1, 4), 1);
        Asked.due("lured(0, 5)", a.x.lured(0, 5), -2);
        Asked.due("lured(0, -1)", a.x.lured(0, -1), -2);
        Asked.due("lured(60, 0)", a.x.lured(60, 0), -2);
        Asked.due("danger(1)", a.x.danger(1), 1);
        Asked.due("danger(0), the first", a.x.danger(0), 0);
        Asked.due("danger(2), never", a.x.danger(2), 0);
        Asked.due("danger(5)", a.x.danger(5), -2);
        Asked.due("danger(-1)", a.x.danger(-1), -2);
        a.tell(Halls.BARE);
        Asked.due("lured without EXITS", a.x.lured(0, 0), 0);
        Asked.due("danger without EXITS", a.x.danger(0), 0);
    }

    private static void claques() {
        Asked a = new Asked();
        a.tell(Halls.RING);
        Asked.due("claque(0, 0)", a.x.claque(0, 0), 0);
        Asked.due("lastly(0, 0)", a.x.lastly(0, 0), 0);
        Asked.due("claque(1, 0)", a.x.claque(1, 0), 2);
        Asked.due("lastly(1, 0)", a.x.lastly(1, 0), 0);
        Asked.due("claque(0, 1)", a.x.claque(0, 1), 1);
        Asked.due("lastly(0, 1)", a.x.lastly(0, 1), 0);
        Asked.due("claque(1, 1)", a.x.claque(1, 1), 0);
        Asked.due("lastly(1, 1)", a.x.lastly(1, 1), 2);
        Asked.due("claque(2, 0)", a.x.claque(2, 0), -2);
        Asked.due("claque(0, 60)", a.x.claque(0, 60), -2);
        Asked.due("lastly(-1, 0)", a.x.lastly(-1, 0), -2);
        Asked.due("lastly(0, -1)", a.x.lastly(0, -1), -2);
        // From ACT 59 on to ACT 0.
        a.tell("hall rows 1 seats 2 law 1;place 0 0 to 0 then 1;place 0 1 to 1 then 1;exit 0 wide 1;");
        Asked.due("claque(0, 0)", a.x.claque(0, 0), 0);
        Asked.due("claque(0, 59)", a.x.claque(0, 59), 1);
        Asked.due("claque(0, 1), the 60th go", a.x.claque(0, 1), 59);
        Asked.due("lastly(0, 1)", a.x.lastly(0, 1), 0);
        a.tell("hall rows 1 seats 2 law 1;place 0 0 to 3 then 1;place 0 1 to 1 then 0;exit 0 wide 1;exit 1 wide 1;");
        Asked.due("claque, never", a.x.claque(0, 0), -1);
        Asked.due("lastly, never", a.x.lastly(0, 0), -1);
    }
}
