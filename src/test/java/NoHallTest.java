/** What is asked of a HALL when there is none: of a new object, behind an empty text, and behind an IMAGE of none. */
public final class NoHallTest {
    public static void main(String[] args) {
        Asked a = new Asked();
        ask(a.x);
        a.x.image(0);
        a.tell(Halls.RING);
        a.tell("");
        ask(a.x);
        a.tell(Halls.RING);
        a.x.back(0);
        ask(a.x);
        Asked.close();
    }

    private static void ask(MovingExits x) {
        x.row(0, 0, 6);
        long[] answers = {x.place(0, 0), x.exit(0, 0), x.sits(0, 0), x.at(0, 0), x.who(0, 0), x.behind(0, 0), x.leads(0, 0),
            x.doubles(0), x.slip(), x.round(), x.again(), x.next(0, 0, 0), x.sees(0), x.far(0, 0, 0), x.by(0, 0, 0),
            x.falls(0, 0, 0), x.best(0), x.worst(0), x.kept(0), x.breaks(0), x.screws(0), x.lawful(), x.out(0, 0),
            x.soonest(0), x.quickest(1), x.wider(0, 0, 0), x.stand(0), x.stands(0), x.needs(), x.wind(0), x.calmest(1),
            x.seen(0), x.ask(0), x.leaves(0), x.fell(0), x.many(0), x.sure(0, 0), x.known(0, 0, 1), x.blind(0, 0, 1),
            x.goes(0, 0, 1), x.worth(1), x.lured(0, 0), x.danger(0), x.claque(0, 0), x.lastly(0, 0), x.screw(0, 0),
            x.king(0, 0, 0), x.seats(0, 0, 0), x.undo(), x.drawn(0, 0, 0), x.lucky(0, 1, 0)};
        for (int i = 0; i < answers.length; i++) {
            Asked.due("answer " + i + " without a HALL", answers[i], -2);
        }
        for (int what = 0; what <= 7; what++) {
            Asked.due("count(" + what + ") without a HALL", x.count(what), 0);
        }
    }
}
