import java.util.Random;

/** HALLs drawn by chance and told as texts, and calls drawn by chance, all answered as the Model answers them. */
public final class ModelTest {
    private static final Random chance = new Random(20261118L);

    public static void main(String[] args) {
        for (int run = 0; run < 260 && !Asked.isWrong(); run++) {
            Asked asked = new Asked();
            Model model = new Model();
            boolean crowded = run % 3 == 0;
            asked.tell(draw(model, crowded));
            for (int call = 0; call < 230 && !Asked.isWrong(); call++) {
                ask(asked.x, model, "run " + run + " call " + call + " ");
            }
        }
        Asked.close();
    }

    private static int upTo(int n) {
        return chance.nextInt(n + 1);
    }

    /** A number that mostly is 0 .. most, now and then beside it. */
    private static int near(int most) {
        return chance.nextInt(25) == 0 ? (chance.nextBoolean() ? -1 - upTo(1) : most + 1 + upTo(1)) : upTo(Math.max(0, most));
    }

    private static String draw(Model m, boolean crowded) {
        StringBuilder text = new StringBuilder();
        m.rows = 1 + upTo(5);
        m.seats = 1 + upTo(5);
        m.law = upTo(12);
        m.lines = 1;
        text.append("hall rows " + m.rows + gap() + "seats" + m.seats + gap() + "law " + m.law + ";");
        int places = upTo(9), exits = crowded ? 1 + upTo(2) : upTo(7), people = crowded ? 60 : upTo(12);
        boolean ring = chance.nextBoolean();
        int kind = upTo(3);
        for (int i = 0; i < places; i++) {
            int r = upTo(m.rows - 1), s = upTo(m.seats - 1);
            int to = kind == 0 ? upTo(4) : kind == 1 ? 4 * upTo(1) : chance.nextInt(3) == 0 ? 0 : upTo(4);
            int then = ring ? (i + 1) % Math.max(1, places) : upTo(8);
            if (m.places.stream().anyMatch(p -> p[0] == r && p[1] == s)) continue;
            m.places.add(new int[] {r, s, to, then});
            m.lines++;
            text.append(gap() + "place " + r + " " + s + gap() + "to " + to + "then" + then + gap() + ";");
        }
        for (int i = 0; i < exits && !m.places.isEmpty(); i++) {
            int p = upTo(m.places.size() - 1), wide = crowded ? 1 : 1 + upTo(2), from = -1, to = -1;
            if (m.exits.stream().anyMatch(e -> e[0] == p)) continue;
            if (chance.nextInt(3) == 0) {
                from = upTo(59);
                to = from + upTo(59 - from);
            }
            m.exits.add(new int[] {p, wide, from, to});
            m.lines++;
            text.append("exit " + p + " wide " + wide + (from < 0 ? "" : " king " + from + " to " + to) + gap() + ";");
        }
        for (int i = 0; i < people; i++) {
            int r = upTo(m.rows - 1), s = upTo(m.seats - 1);
            if (m.taken[r][s]) continue;
            m.taken[r][s] = true;
            m.lines++;
            text.append("sits " + r + " " + s + ";");
        }
        return text.toString();
    }

    private static String gap() {
        return chance.nextInt(4) == 0 ? " \n " : " ";
    }

    private static int act() {
        return chance.nextBoolean() ? near(8) : near(59);
    }

    private static void ask(MovingExits x, Model m, String call) {
        int which = upTo(9);
        int r = near(m.rows - 1), s = near(m.seats - 1), e = near(m.exits.size() - 1), p = near(m.places.size() - 1);
        if (which < 3) {
            askOfActs(x, m, call, e, p, act());
        } else if (which < 5) {
            askOfSteps(x, m, call, r, s, act());
        } else if (which == 5) {
            askOfRush(x, m, call, act(), near(20), e);
        } else if (which == 6) {
            askOfHabits(x, m, call, r, s, act());
        } else if (which == 7) {
            change(x, m, call, p, e);
        } else if (which == 8) {
            askOfSlots(x, m, call, near(3), e);
        } else {
            askOfCrowds(x, m, call, act());
        }
    }

    private static void askOfActs(MovingExits x, Model m, String call, int e, int p, int a) {
        int b = near(4);
        switch (upTo(10)) {
            case 0: Asked.due(call + "at " + e + " " + a, x.at(e, a), m.at(e, a)); break;
            case 1: Asked.due(call + "who " + p + " " + a, x.who(p, a), m.who(p, a)); break;
            case 2: Asked.due(call + "behind " + e + " " + a, x.behind(e, a), m.behind(e, a)); break;
            case 3: Asked.due(call + "leads " + a + " " + b, x.leads(a, b), m.leads(a, b)); break;
            case 4: Asked.due(call + "doubles " + a, x.doubles(a), m.doubles(a)); break;
            case 5: Asked.due(call + "slip", x.slip(), m.slip()); break;
            case 6: Asked.due(call + "round", x.round(), m.round()); break;
            case 7: Asked.due(call + "again", x.again(), m.again()); break;
            case 8: Asked.due(call + "next " + e + " " + p + " " + a, x.next(e, p, a), m.next(e, p, a)); break;
            case 9: Asked.due(call + "sees " + e, x.sees(e), m.sees(e)); break;
            default: Asked.due(call + "claque " + e + " " + a, x.claque(e, a), m.claque(e, a));
                Asked.due(call + "lastly " + e + " " + a, x.lastly(e, a), m.lastly(e, a));
        }
    }

    private static void askOfSteps(MovingExits x, Model m, String call, int r, int s, int a) {
        switch (upTo(10)) {
            case 0: Asked.due(call + "far", x.far(r, s, a), m.far(r, s, a)); break;
            case 1: Asked.due(call + "by", x.by(r, s, a), m.by(r, s, a)); break;
            case 2: Asked.due(call + "falls", x.falls(r, s, a), m.falls(r, s, a)); break;
            case 3: Asked.due(call + "best", x.best(a), m.best(a)); break;
            case 4: Asked.due(call + "worst", x.worst(a), m.worst(a)); break;
            case 5: Asked.due(call + "kept", x.kept(a), m.kept(a)); break;
            case 6: Asked.due(call + "breaks", x.breaks(a), m.breaks(a)); break;
            case 7: Asked.due(call + "screws", x.screws(a), m.screws(a)); break;
            case 8: Asked.due(call + "lawful", x.lawful(), m.lawful()); break;
            case 9: Asked.due(call + "wind", x.wind(a), m.wind(a)); break;
            default: Asked.due(call + "calmest", x.calmest(a), m.calmest(a));
        }
    }

    private static void askOfRush(MovingExits x, Model m, String call, int a, int n, int e) {
        switch (upTo(12)) {
            case 0: Asked.due(call + "soonest " + a, x.soonest(a), m.soonest(a)); break;
            case 1: int few = near(4);
                Asked.due(call + "quickest " + few, x.quickest(few), m.quickest(few)); break;
            case 2: case 3: Asked.due(call + "wider " + a + " " + n + " " + e, x.wider(a, n, e), m.wider(a, n, e)); break;
            case 4: int k = near(7);
                Asked.due(call + "stand " + k, x.stand(k), m.stand(k));
                Asked.due(call + "stands " + k, x.stands(k), m.stands(k)); break;
            case 5: Asked.due(call + "needs", x.needs(), m.needs()); break;
            default: Asked.due(call + "out " + a + " " + n, x.out(a, n), m.out(a, n, -1));
        }
    }

    private static void askOfHabits(MovingExits x, Model m, String call, int r, int s, int n) {
        int a = act(), b = near(4);
        switch (upTo(5)) {
            case 0: Asked.due(call + "known", x.known(r, s, n), m.known(r, s, n)); break;
            case 1: Asked.due(call + "blind", x.blind(r, s, n), m.blind(r, s, n)); break;
            case 2: Asked.due(call + "goes", x.goes(r, s, n), m.goes(r, s, n)); break;
            case 3: int few = near(5);
                Asked.due(call + "worth " + few, x.worth(few), m.worth(few)); break;
            case 4: Asked.due(call + "lured " + a + " " + b, x.lured(a, b), m.lured(a, b)); break;
            default: if (m.sitting() < 9) Asked.due(call + "danger " + b, x.danger(b), m.danger(b));
        }
    }

    private static void change(MovingExits x, Model m, String call, int p, int e) {
        int r = near(m.rows - 1), s = near(m.seats - 1), is = near(1), then = near(8);
        int from = near(59), to = chance.nextInt(3) == 0 ? near(59) : Math.min(59, from + upTo(30));
        switch (upTo(5)) {
            case 0: case 1: Asked.due(call + "screw " + p + " " + then, x.screw(p, then), m.screw(p, then)); break;
            case 2: Asked.due(call + "king " + e + " " + from + " " + to, x.king(e, from, to), m.king(e, from, to)); break;
            case 3: Asked.due(call + "king never " + e, x.king(e, -1, -1), m.king(e, -1, -1)); break;
            case 4: Asked.due(call + "seats", x.seats(r, s, is), m.seats(r, s, is)); break;
            default: Asked.due(call + "undo", x.undo(), m.undo());
        }
        Asked.due(call + "count(5)", x.count(5), m.sitting());
        Asked.due(call + "count(6)", x.count(6), m.takeBack.size());
    }

    private static void askOfSlots(MovingExits x, Model m, String call, int slot, int e) {
        int width = near(3), n = chance.nextBoolean() ? 2 * near(3) : 3 * near(2);
        Asked.due(call + "row", x.row(slot, width, n), m.row(slot, width, n));
        for (int i = 0; i < n; i++) {
            int most = chance.nextInt(20) == 0 ? 8 : Math.max(0, Math.min(m.exits.size(), m.rows) - 1);
            long v = upTo(most) + (chance.nextInt(4) == 0 ? 1L << 8 * (1 + upTo(6)) : 0L);
            Asked.due(call + "write", x.write(slot, i, v), m.write(slot, i, v));
        }
        int to = near(3), i = near(2), k = near(2), so = near(2);
        Asked.due(call + "paste", x.paste(slot, i, to, k, so), m.paste(slot, i, to, k, so));
        Asked.due(call + "seen " + to, x.seen(to), m.seen(to));
        Asked.due(call + "seen " + slot, x.seen(slot), m.seen(slot));
        Asked.due(call + "ask " + slot, x.ask(slot), m.ask(slot));
        Asked.due(call + "leaves " + slot, x.leaves(slot), m.leaves(slot));
        Asked.due(call + "fell " + slot, x.fell(slot), m.fell(slot));
        Asked.due(call + "many " + slot, x.many(slot), m.many(slot));
        Asked.due(call + "sure " + slot + " " + e, x.sure(slot, e), m.sure(slot, e));
    }

    private static void askOfCrowds(MovingExits x, Model m, String call, int a) {
        int seed = chance.nextInt(9) == 0 ? 2000000000 + upTo(1) : chance.nextInt(2000000000), what = near(5), n = near(20);
        Asked.due(call + "drawn " + seed + " " + a + " " + what, x.drawn(seed, a, what), m.drawn(seed, a, what));
        Asked.due(call + "lucky " + seed + " " + n + " " + a, x.lucky(seed, n, a), m.lucky(seed, n, a));
    }
}
