import java.util.Random;

/** Texts that are HALLs but for what chance spoils in them, and texts of tokens by chance, as TextModel reads them. */
public final class TextModelTest {
    private static final Random chance = new Random(4L);
    private static final String[] BITS = {"hall ", "rows ", "seats ", "law ", "place ", "to ", "then ", "exit ", "wide ",
        "king ", "sits ", ";", "0 ", "1 ", "2 ", "3 ", "7 ", "60 ", "13 ", " ", "\n", "?", "\t", "A", "x", "00000000000000000001 ",
        "4294967296 ", "18446744073709551617 ", "\u0000", "\u0080", "\u00ff"};
    private static final int[] seenFaults = new int[4];

    public static void main(String[] args) {
        for (int run = 0; run < 12000 && !Asked.isWrong(); run++) {
            StringBuilder text = new StringBuilder(lines());
            for (int spoil = chance.nextInt(3); spoil > 0; spoil--) {
                spoil(text);
            }
            if (text.length() <= 1400) {
                hold(text.toString());
            }
        }
        for (int fault = 0; fault < 4; fault++) {
            Asked.due("FAULTS " + fault + " were there", seenFaults[fault] > 50 ? 1 : 0, 1);
        }
        Asked.close();
    }

    private static void hold(String text) {
        Asked asked = new Asked();
        TextModel model = new TextModel(text);
        asked.bring(text);
        Asked.due("hall() of " + text, asked.x.hall(), model.fault == 0 ? model.lines : -4);
        Asked.due("fault(0) of " + text, asked.x.fault(0), model.fault);
        Asked.due("fault(1) of " + text, asked.x.fault(1), model.place);
        if (model.fault == 0) {
            Asked.due("ROWS of " + text, asked.x.count(0), model.rows);
            Asked.due("SEATS of " + text, asked.x.count(1), model.seats);
            Asked.due("PLACES of " + text, asked.x.count(3), model.placesTaken.size());
            Asked.due("EXITS of " + text, asked.x.count(4), model.exitsTaken.size());
            Asked.due("who sit in " + text, asked.x.count(5), model.sitsTaken.size());
        }
        seenFaults[model.fault]++;
    }

    private static int upTo(int n) {
        return chance.nextInt(n + 1);
    }

    private static String lines() {
        int rows = 1 + upTo(5), seats = 1 + upTo(5), places = 0, exits = 0;
        StringBuilder text = new StringBuilder("hall rows " + rows + " seats " + seats + " law " + upTo(12) + ";");
        int spots = rows * seats, most = chance.nextInt(4) == 0 ? 10 : upTo(9), first = upTo(spots - 1);
        for (; places < most && places < spots; places++) {
            int spot = (first + places) % spots;
            text.append("place " + spot / seats + " " + spot % seats + " to " + upTo(4) + " then " + upTo(8) + ";");
        }
        for (most = chance.nextInt(4) == 0 ? 8 : upTo(7); exits < most && exits < places; exits++) {
            int from = upTo(59);
            text.append("exit " + exits + " wide " + (1 + upTo(2))
                + (chance.nextInt(3) == 0 ? " king " + from + " to " + (from + upTo(59 - from)) : "") + ";");
        }
        first = upTo(spots - 1);
        for (int people = upTo(9), i = 0; i < people && i < spots; i++) {
            int spot = (first + i) % spots;
            text.append("sits " + spot / seats + " " + spot % seats + ";");
        }
        return text.toString();
    }

    private static void spoil(StringBuilder text) {
        int at = upTo(text.length());
        int to = Math.min(text.length(), at + upTo(6));
        switch (upTo(4)) {
            case 0: text.insert(at, BITS[chance.nextInt(BITS.length)]); break;
            case 1: text.delete(at, to); break;
            case 2: text.replace(at, Math.min(text.length(), at + 1), BITS[chance.nextInt(BITS.length)]); break;
            case 3: text.setLength(at); break;
            default: text.insert(at, text.substring(at, to));
        }
    }
}
