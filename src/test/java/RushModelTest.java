import java.util.Random;

/** Crowded HALLs with few and narrow EXITS, where paths must turn one another aside, as the Model's flow has them. */
public final class RushModelTest {
    private static final Random chance = new Random(28L);

    public static void main(String[] args) {
        for (int run = 0; run < 1500 && !Asked.isWrong(); run++) {
            Asked asked = new Asked();
            Model model = new Model();
            String text = draw(model);
            asked.tell(text);
            for (int ask = 0; ask < 4; ask++) {
                int n = chance.nextInt(9), exit = chance.nextInt(model.exits.size()), act = chance.nextInt(4);
                Asked.due("out(" + act + ", " + n + ") of " + text, asked.x.out(act, n), model.out(act, n, -1));
                Asked.due("wider(" + act + ", " + n + ", " + exit + ") of " + text, asked.x.wider(act, n, exit),
                    model.wider(act, n, exit));
            }
            if (run % 10 == 0) {
                Asked.due("soonest(0) of " + text, asked.x.soonest(0), model.soonest(0));
                Asked.due("quickest(3) of " + text, asked.x.quickest(3), model.quickest(3));
            }
        }
        Asked.close();
    }

    private static String draw(Model m) {
        m.rows = 1 + chance.nextInt(6);
        m.seats = 1 + chance.nextInt(6);
        m.lines = 1;
        StringBuilder text = new StringBuilder("hall rows " + m.rows + " seats " + m.seats + " law 0;");
        int spots = m.rows * m.seats, places = Math.min(spots, 1 + chance.nextInt(5)), empty = chance.nextInt(4);
        while (m.places.size() < places) {
            int r = chance.nextInt(m.rows), s = chance.nextInt(m.seats);
            if (m.places.stream().noneMatch(p -> p[0] == r && p[1] == s)) {
                int[] p = {r, s, chance.nextInt(5) == 0 ? 1 : 0, chance.nextInt(5)};
                m.places.add(p);
                text.append("place " + r + " " + s + " to " + p[2] + " then " + p[3] + ";");
            }
        }
        for (int place = 0; place < places; place++) {
            int wide = chance.nextInt(4) == 0 ? 2 : 1;
            m.exits.add(new int[] {place, wide, -1, -1});
            text.append("exit " + place + " wide " + wide + ";");
        }
        for (int spot = 0; spot < spots; spot++) {
            if (chance.nextInt(4) >= empty) {
                m.taken[spot / m.seats][spot % m.seats] = true;
                text.append("sits " + spot / m.seats + " " + spot % m.seats + ";");
            }
        }
        return text.toString();
    }
}
