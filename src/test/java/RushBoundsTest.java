/** The bounds of IV and of promises 28 to 31: MINUTES, and how many are on a SEAT and out in one of them. */
public final class RushBoundsTest {
    private static final String SEA_AND_STREET = "hall rows 1 seats 2 law 2;place 0 0 to 1 then 1;place 0 1 to 0 then 1;";

    public static void main(String[] args) {
        out();
        soonest();
        quickest();
        wider();
        firstMinute();
        oneOnASeat();
        asManyAsAreWide();
        asWideTogether();
        onlyGoodOnes();
        twentyMinutes();
        nobodyAndAll();
        Asked.close();
    }

    private static void outs(String name, MovingExits x, int act, int... due) {
        for (int n = 0; n < due.length; n++) {
            Asked.due(name + ": out(" + act + ", " + n + ")", x.out(act, n), due[n]);
        }
    }

    private static void out() {
        Bounds ring = new Bounds(Starts::ring);
        ring.of("out(.., 3)", 0, 2, 59, 3, (x, act) -> x.out(act, 3));
        ring.of("out(0, ..)", 0, 0, 20, 3, (x, n) -> x.out(0, n));
        ring.only("out(59, 0)", 0, x -> x.out(59, 0));
    }

    private static void soonest() {
        Bounds ring = new Bounds(Starts::ring);
        ring.of("soonest", 0, 4, 59, 3, MovingExits::soonest);
    }

    private static void quickest() {
        Bounds ring = new Bounds(Starts::ring);
        ring.of("quickest", 1, 0, 60, 1, MovingExits::quickest);
        ring.only("quickest(2)", 1, x -> x.quickest(2));
        MovingExits last = Starts.of(SEA_AND_STREET + "exit 0 wide 1 king 0 to 58;sits 0 0;");
        Asked.due("quickest(59), in none of them", last.quickest(59), -1);
        Asked.due("quickest(60), in the last one", last.quickest(60), 59);
        MovingExits never = Starts.of(SEA_AND_STREET + "exit 0 wide 1 king 0 to 59;sits 0 0;");
        Asked.due("quickest(60), in none", never.quickest(60), -1);
        Asked.due("quickest(60) of nobody, the first", Starts.of(SEA_AND_STREET).quickest(60), 0);
    }

    private static void wider() {
        Bounds ring = new Bounds(Starts::ring);
        ring.of("wider(.., 2, 0)", 0, 0, 59, 0, (x, act) -> x.wider(act, 2, 0));
        ring.of("wider(0, .., 0)", 0, 0, 20, 0, (x, n) -> x.wider(0, n, 0));
        ring.of("wider(0, 2, ..)", 0, 0, 1, 0, (x, exit) -> x.wider(0, 2, exit));
        Bounds full = new Bounds(() -> Starts.of(Starts.FULL));
        full.of("wider(0, 1, ..) of seven", 0, 0, 6, 0, (x, exit) -> x.wider(0, 1, exit));
        full.of("wider(0, 2, ..) of seven", 0, 1, 6, 0, (x, exit) -> x.wider(0, 2, exit));
        // Around one SEAT four sit: each one wider helps till it is four wide.
        Bounds star = new Bounds(() -> Starts.of(star(1)));
        star.only("wider by one MINUTE", 0, x -> x.wider(0, 1, 0));
        for (int wide = 1; wide <= 3; wide++) {
            MovingExits x = Starts.of(star(wide));
            Asked.due("wider than " + wide, x.wider(0, 2, 0), 1);
            Asked.due("out by " + wide, x.out(0, 2), wide);
            Asked.due("it is as wide as it was", x.exit(0, 1), wide);
            Asked.due("out by " + wide + " still", x.out(0, 2), wide);
        }
    }

    private static String star(int wide) {
        return "hall rows 3 seats 3 law 3;place 1 1 to 0 then 0;exit 0 wide " + wide + ";sits 0 1;sits 1 0;sits 1 2;sits 2 1;";
    }

    private static void firstMinute() {
        String one = "hall rows 1 seats 2 law 3;place 0 0 to 0 then 0;exit 0 wide 1;";
        outs("by the EXIT", Starts.of(one + "sits 0 0;"), 0, 0, 1, 1);
        outs("beside it", Starts.of(one + "sits 0 1;"), 0, 0, 0, 1);
        outs("both", Starts.of(one + "sits 0 1;sits 0 0;"), 0, 0, 1, 2);
        Asked.due("soonest by the EXIT", Starts.of(one + "sits 0 0;").soonest(0), 1);
        Asked.due("soonest beside it", Starts.of(one + "sits 0 1;").soonest(0), 2);
        // Alone one is out in as many MINUTES as steps, from corner to corner too.
        MovingExits far = Starts.of("hall rows 6 seats 6 law 3;place 0 0 to 0 then 0;exit 0 wide 1;sits 5 5;");
        Asked.due("the farthest, a MINUTE too few", far.out(0, 10), 0);
        Asked.due("the farthest", far.out(0, 11), 1);
        Asked.due("soonest of the farthest", far.soonest(0), 11);
    }

    private static void oneOnASeat() {
        // Two behind one SEAT, one of which must wait, however wide the EXIT is.
        String narrow = "hall rows 2 seats 2 law 3;place 0 0 to 0 then 0;exit 0 wide 3;sits 1 1;sits 0 1;";
        outs("one comes by each SEAT", Starts.of(narrow), 0, 0, 0, 1, 2);
        String row = "hall rows 1 seats 3 law 3;place 0 0 to 0 then 0;exit 0 wide 3;sits 0 1;sits 0 2;";
        outs("one behind the other", Starts.of(row), 0, 0, 0, 1, 2);
        // A PLACE without an EXIT is a SEAT like others.
        String fork = "hall rows 3 seats 3 law 3;place 1 0 to 0 then 0;place 1 1 to 0 then 1;exit 0 wide 3;"
            + "sits 0 1;sits 2 1;sits 1 2;";
        outs("by a PLACE without an EXIT", Starts.of(fork), 0, 0, 0, 0, 3);
        String wall = "hall rows 1 seats 6 law 3;place 0 0 to 0 then 0;place 0 1 to 0 then 1;exit 0 wide 3;"
            + "sits 0 2;sits 0 3;sits 0 4;sits 0 5;";
        outs("one in each MINUTE", Starts.of(wall), 0, 0, 0, 0, 1, 2, 3, 4);
    }

    private static void asManyAsAreWide() {
        for (int wide = 1; wide <= 3; wide++) {
            MovingExits x = Starts.of(star(wide) + "sits 1 1;");
            outs("four around one, " + wide + " wide", x, 0, 0, 1, 1 + wide, Math.min(5, 1 + 2 * wide), Math.min(5, 1 + 3 * wide));
            Asked.due("soonest " + wide + " wide", x.soonest(0), new int[] {5, 3, 3}[wide - 1]);
        }
    }

    private static void asWideTogether() {
        // All seven, three wide each, are by the SEAT in the midst from ACT 1 on: 21 wide, with four ways to it.
        StringBuilder text = new StringBuilder("hall rows 3 seats 3 law 3;place 1 1 to 0 then 0;");
        for (int i = 0; i < 6; i++) {
            text.append("place " + i / 3 * 2 + " " + i % 3 + " to 0 then 0;");
        }
        text.append(Halls.EXITS_OF_SEVEN.replace("wide 1", "wide 3")).append(Starts.everySeat(3, 3));
        MovingExits x = Starts.of(text.toString());
        Asked.due("all seven", x.who(0, 1), 127);
        outs("all seven", x, 1, 0, 1, 5, 9, 9);
        outs("each by itself", x, 0, 0, 7, 9);
        Asked.due("soonest by all seven", x.soonest(1), 3);
        // One wide and two wide together are three wide.
        MovingExits two = Starts.of(star(1).replace("exit", "place 0 0 to 0 then 0;exit") + "exit 1 wide 2;");
        outs("one of them", two, 0, 0, 0, 3, 4);
        outs("one and two", two, 1, 0, 0, 3, 4);
        Asked.due("one and two, and one more", two.wider(1, 2, 1), 1);
    }

    private static void onlyGoodOnes() {
        String sea = star(1).replace("to 0", "to 1");
        outs("none to the sea", Starts.of(sea), 0, 0, 0, 0, 0);
        Asked.due("wider to the sea", Starts.of(sea).wider(0, 20, 0), 0);
        Asked.due("soonest to the sea", Starts.of(sea).soonest(0), -1);
        // One by an EXIT to the sea is one at most, as on other SEATS.
        String fork = "hall rows 3 seats 3 law 3;place 1 0 to 0 then 0;place 1 1 to 1 then 1;exit 0 wide 3;exit 1 wide 3;"
            + "sits 0 1;sits 2 1;sits 1 1;";
        outs("by an EXIT to the sea", Starts.of(fork), 0, 0, 0, 1, 3);
    }

    /** So many sit in a HALL of 36 with one EXIT in a corner, one wide: one goes out in each MINUTE. */
    private static MovingExits corner(int people) {
        String sits = Starts.everySeat(6, 6).substring(0, 9 * people);
        return Starts.of("hall rows 6 seats 6 law 3;place 0 0 to 0 then 0;exit 0 wide 1;" + sits);
    }

    private static void twentyMinutes() {
        Asked.due("soonest of 19", corner(19).soonest(0), 19);
        Asked.due("soonest of 20", corner(20).soonest(0), 20);
        Asked.due("soonest of 21", corner(21).soonest(0), -1);
        Asked.due("quickest of 20", corner(20).quickest(60), 0);
        Asked.due("quickest of 21", corner(21).quickest(60), -1);
        Asked.due("out of 20 within 19", corner(20).out(0, 19), 19);
        Asked.due("out of 20 within 20", corner(20).out(0, 20), 20);
        Asked.due("out of 21 within 20", corner(21).out(0, 20), 20);
        Asked.due("wider for 21", corner(21).wider(0, 20, 0), 1);
        Asked.due("wider for 20", corner(20).wider(0, 20, 0), 0);
        // The one who sits by the EXIT is out first, else nobody in the first MINUTE.
        MovingExits late = corner(20);
        late.seats(0, 0, 0);
        Asked.due("soonest of 19 without the first", late.soonest(0), 20);
        late.seats(5, 5, 1);
        Asked.due("soonest of 20 without the first", late.soonest(0), -1);
    }

    private static void nobodyAndAll() {
        String empty = "hall rows 6 seats 6 law 3;place 0 0 to 0 then 0;exit 0 wide 1;";
        MovingExits nobody = Starts.of(empty);
        Asked.due("out of nobody", nobody.out(0, 20), 0);
        Asked.due("soonest of nobody", nobody.soonest(59), 0);
        Asked.due("wider for nobody", nobody.wider(0, 20, 0), 0);
        MovingExits bare = Starts.of(Halls.BARE);
        Asked.due("out without EXITS", bare.out(59, 20), 0);
        Asked.due("soonest without EXITS", bare.soonest(0), -1);
        bare.seats(0, 0, 0);
        Asked.due("soonest of nobody without EXITS", bare.soonest(0), 0);
        // Four corners three wide have two ways each: four in the first MINUTE, eight in each other.
        StringBuilder text = new StringBuilder("hall rows 6 seats 6 law 3;");
        for (int i = 0; i < 4; i++) {
            text.append("place " + i / 2 * 5 + " " + i % 2 * 5 + " to 4 then " + i + ";exit " + i + " wide 3;");
        }
        MovingExits all = Starts.of(text + Starts.everySeat(6, 6));
        outs("all 36", all, 0, 0, 4, 12, 20, 28, 36, 36);
        Asked.due("soonest of all 36", all.soonest(59), 5);
        Asked.due("count(5)", all.count(5), 36);
    }
}
