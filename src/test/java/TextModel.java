import java.util.ArrayList;
import java.util.List;
import java.util.regex.Matcher;
import java.util.regex.Pattern;

/** The text of a HALL once more: LINES as patterns of what may stand at each token. */
final class TextModel {
    int fault = 0;
    int place = -1;
    int lines = 0;
    int rows;
    int seats;
    final List<String> placesTaken = new ArrayList<>();
    final List<Integer> exitsTaken = new ArrayList<>();
    final List<String> sitsTaken = new ArrayList<>();
    private final List<String> tokens = new ArrayList<>();
    private final List<Integer> starts = new ArrayList<>();

    TextModel(String text) {
        Matcher m = Pattern.compile("[a-z]+|[0-9]+|;|[^ \n]").matcher(text);
        while (m.find()) {
            tokens.add(m.group());
            starts.add(m.start());
        }
        tokens.add("");
        starts.add(text.length());
        int at = 0;
        while (at >= 0 && !tokens.get(at).isEmpty()) {
            at = line(at);
        }
    }

    private int fail(int kind, int token) {
        fault = kind;
        place = starts.get(token);
        return -1;
    }

    /** The token behind the LINE, or -1. */
    private int line(int at) {
        String word = tokens.get(at);
        if (lines == 0 != word.equals("hall")) {
            return fail(1, at);
        }
        String[] form;
        switch (word) {
            case "hall": form = "hall rows 1-6 seats 1-6 law 0-12 ;".split(" "); break;
            case "place": form = "place R S to 0-4 then 0-8 ;".split(" "); break;
            case "exit": form = "exit P wide 1-3 ;".split(" "); break;
            case "sits": form = "sits R S ;".split(" "); break;
            default: return fail(1, at);
        }
        if (word.equals("place") && placesTaken.size() == 9 || word.equals("exit") && exitsTaken.size() == 7) {
            return fail(3, at);
        }
        if (word.equals("exit") && at + 4 < tokens.size() && tokens.get(at + 4).equals("king")) {
            form = "exit P wide 1-3 king 0-59 to A ;".split(" ");
        }
        List<Integer> numbers = new ArrayList<>();
        for (int i = 0; i < form.length; i++) {
            int kind = fits(form[i], tokens.get(at + i), numbers, word);
            if (kind != 0) {
                return fail(kind, at + i);
            }
        }
        lines++;
        if (word.equals("hall")) {
            rows = numbers.get(0);
            seats = numbers.get(1);
        } else if (word.equals("place")) {
            placesTaken.add(numbers.get(0) + " " + numbers.get(1));
        } else if (word.equals("exit")) {
            exitsTaken.add(numbers.get(0));
        } else {
            sitsTaken.add(numbers.get(0) + " " + numbers.get(1));
        }
        return at + form.length;
    }

    private int fits(String form, String token, List<Integer> numbers, String word) {
        if (form.matches("[a-z;]+")) {
            return token.equals(form) ? 0 : 1;
        }
        if (!token.matches("[0-9]+")) {
            return 1;
        }
        java.math.BigInteger big = new java.math.BigInteger(token);
        int number = big.bitLength() > 20 ? 1000000 : big.intValue();
        boolean right;
        if (form.equals("R")) {
            right = number < rows;
        } else if (form.equals("S")) {
            List<String> taken = word.equals("place") ? placesTaken : sitsTaken;
            right = number < seats && !taken.contains(numbers.get(0) + " " + number);
        } else if (form.equals("P")) {
            right = number < placesTaken.size() && !exitsTaken.contains(number);
        } else if (form.equals("A")) {
            right = number >= numbers.get(2) && number <= 59;
        } else {
            String[] bounds = form.split("-");
            right = number >= Integer.parseInt(bounds[0]) && number <= Integer.parseInt(bounds[1]);
        }
        numbers.add(number);
        return right ? 0 : 2;
    }
}
