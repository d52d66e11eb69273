import java.util.LinkedHashMap;
import java.util.Map;

/** "No HALL": every call that asks for one is -2, on a new object and on one that has all else, and nothing changes. */
public final class NoHallBoundsTest {
    private static final Map<String, Bounds.Call> CALLS = new LinkedHashMap<>();

    public static void main(String[] args) {
        ofActs();
        ofStepsAndRush();
        ofTheRest();
        Bounds bare = new Bounds(MovingExits::new);
        Bounds emptied = new Bounds(Starts::noHall);
        for (Map.Entry<String, Bounds.Call> call : CALLS.entrySet()) {
            bare.only(call.getKey() + " of a new object", -2, call.getValue());
            emptied.only(call.getKey() + " without a HALL", -2, call.getValue());
        }
        Asked.due("calls that ask for a HALL", CALLS.size(), 51);
        Asked.close();
    }

    private static void ofActs() {
        CALLS.put("place", x -> x.place(0, 0));
        CALLS.put("exit", x -> x.exit(0, 0));
        CALLS.put("sits", x -> x.sits(0, 0));
        CALLS.put("at", x -> x.at(0, 0));
        CALLS.put("who", x -> x.who(0, 0));
        CALLS.put("behind", x -> x.behind(0, 0));
        CALLS.put("leads", x -> x.leads(0, 0));
        CALLS.put("doubles", x -> x.doubles(0));
        CALLS.put("slip", MovingExits::slip);
        CALLS.put("round", MovingExits::round);
        CALLS.put("again", MovingExits::again);
        CALLS.put("next", x -> x.next(0, 0, 0));
        CALLS.put("sees", x -> x.sees(0));
    }

    private static void ofStepsAndRush() {
        CALLS.put("far", x -> x.far(0, 0, 0));
        CALLS.put("by", x -> x.by(0, 0, 0));
        CALLS.put("falls", x -> x.falls(0, 0, 0));
        CALLS.put("best", x -> x.best(0));
        CALLS.put("worst", x -> x.worst(0));
        CALLS.put("kept", x -> x.kept(0));
        CALLS.put("breaks", x -> x.breaks(0));
        CALLS.put("screws", x -> x.screws(0));
        CALLS.put("lawful", MovingExits::lawful);
        CALLS.put("out", x -> x.out(0, 0));
        CALLS.put("soonest", x -> x.soonest(0));
        CALLS.put("quickest", x -> x.quickest(1));
        CALLS.put("wider", x -> x.wider(0, 0, 0));
        CALLS.put("stand", x -> x.stand(0));
        CALLS.put("stands", x -> x.stands(0));
        CALLS.put("needs", MovingExits::needs);
        CALLS.put("wind", x -> x.wind(0));
        CALLS.put("calmest", x -> x.calmest(1));
    }

    private static void ofTheRest() {
        CALLS.put("seen", x -> x.seen(0));
        CALLS.put("ask", x -> x.ask(0));
        CALLS.put("leaves", x -> x.leaves(0));
        CALLS.put("fell", x -> x.fell(1));
        CALLS.put("many", x -> x.many(1));
        CALLS.put("sure", x -> x.sure(1, 0));
        CALLS.put("known", x -> x.known(0, 0, 1));
        CALLS.put("blind", x -> x.blind(0, 0, 1));
        CALLS.put("goes", x -> x.goes(0, 0, 1));
        CALLS.put("worth", x -> x.worth(1));
        CALLS.put("lured", x -> x.lured(0, 0));
        CALLS.put("danger", x -> x.danger(0));
        CALLS.put("claque", x -> x.claque(0, 0));
        CALLS.put("lastly", x -> x.lastly(0, 0));
        CALLS.put("screw", x -> x.screw(0, 0));
        CALLS.put("king", x -> x.king(0, -1, -1));
        CALLS.put("seats", x -> x.seats(0, 0, 0));
        CALLS.put("undo", MovingExits::undo);
        CALLS.put("drawn", x -> x.drawn(0, 0, 0));
        CALLS.put("lucky", x -> x.lucky(0, 1, 0));
    }
}
