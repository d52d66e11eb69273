/** An object under test: tells it texts, and gathers every answer that is not the one that is due. */
final class Asked {
    private static int wrong = 0;
    private static int answers = 0;
    MovingExits x = new MovingExits();

    static void due(String call, long got, long want) {
        answers++;
        if (got != want) {
            wrong++;
            System.out.println(call + " answered " + got + ", due is " + want);
        }
    }

    /** Two States: the first line that is not the same is told. */
    static void same(String what, String got, String want) {
        String[] gotLines = got.split("\n");
        String[] wantLines = want.split("\n");
        due(what + ": lines", gotLines.length, wantLines.length);
        for (int i = 0; i < gotLines.length && i < wantLines.length; i++) {
            if (!gotLines[i].equals(wantLines[i])) {
                due(what + ": " + gotLines[i] + ", not so, " + wantLines[i], 1, 0);
                return;
            }
        }
    }

    static void close() {
        System.out.println(answers + " answers, " + wrong + " wrong");
        if (wrong != 0 || answers == 0) {
            System.exit(1);
        }
    }

    static boolean isWrong() {
        return wrong != 0;
    }

    /** Brings a text to the TAPE, which is emptied first. */
    void bring(String text) {
        x.end(0);
        byte[] bytes = new byte[(text.length() + 19) / 20 * 20];
        for (int i = 0; i < bytes.length; i++) {
            bytes[i] = i < text.length() ? (byte) text.charAt(i) : (byte) '?';
        }
        for (int i = 0; i < bytes.length; i += 20) {
            due("feed", x.feed(number(bytes, i), number(bytes, i + 4), number(bytes, i + 8), number(bytes, i + 12),
                number(bytes, i + 16)), i + 20);
        }
        due("end(" + text.length() + ")", x.end(text.length()), text.length());
    }

    private static int number(byte[] b, int i) {
        return (b[i] & 255) << 24 | (b[i + 1] & 255) << 16 | (b[i + 2] & 255) << 8 | b[i + 3] & 255;
    }

    /** A text that is a HALL. */
    void tell(String text) {
        bring(text);
        int lines = 0;
        for (char c : text.toCharArray()) {
            lines += c == ';' ? 1 : 0;
        }
        due("hall() of " + text, x.hall(), lines);
        due("fault(0) of " + text, x.fault(0), 0);
        due("fault(1) of " + text, x.fault(1), -1);
    }

    /** A text that is none. */
    void refuse(String text, int fault, int at) {
        bring(text);
        due("hall() of " + text, x.hall(), -4);
        due("fault(0) of " + text, x.fault(0), fault);
        due("fault(1) of " + text, x.fault(1), at);
    }

    void row(int slot, int width, long... numbers) {
        due("row", x.row(slot, width, numbers.length), 0);
        for (int i = 0; i < numbers.length; i++) {
            due("write", x.write(slot, i, numbers[i]), 0);
        }
    }
}
