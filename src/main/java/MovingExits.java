/** A hall whose exits change places between the acts; what each call answers is told by the document. */
public final class MovingExits {
    public static final int NONE = -1;

    private static final int NO_SUCH = -2;
    private static final int BELOW = -3;
    private static final int FAULTY = -4;
    private static final int NO_CHANGE = -5;
    private static final int NOTHING = -6;
    private static final int BEYOND = -7;
    private static final int UNLIKE = -8;

    private static final int ACTS = 60;
    private static final int SIDE = 6;
    private static final int SPOTS = 36;
    private static final int MOST_PLACES = 9;
    private static final int MOST_EXITS = 7;
    private static final int BEHINDS = 5;
    private static final int MOST_MINUTES = 20;
    private static final int NO_WAY_OUT = 50;
    private static final int FARTHEST = 11;
    private static final int MOST_CHANGES = 40;
    private static final int MOST_BYTES = 1400;
    private static final int BYTES_OF_FEED = 20;
    private static final int MOST_NUMBERS = 60;
    private static final int SLOTS = 4;
    private static final int WIDTHS = 4;
    private static final int IMAGES = 3;
    private static final int MOST_CROWDS = 20;
    private static final int GREATEST_SEED = 2000000000;

    private final Tape tape = new Tape();
    private final Reader reader;
    private final Hall[] images = new Hall[IMAGES];
    private final boolean[] imageMade = new boolean[IMAGES];
    private final Slot[] slots = new Slot[SLOTS];
    private final Acts acts;
    private final Clues clues;
    private final Habits habits;
    private final Rush rush;
    private final Stands stands;
    private final Crowd crowd;
    private Hall hall = new Hall();
    private Hall draft = new Hall();

    public MovingExits() {
        for (int k = 0; k < IMAGES; k++) {
            images[k] = new Hall();
        }
        for (int slot = 0; slot < SLOTS; slot++) {
            slots[slot] = new Slot();
        }
        reader = new Reader(tape, draft);
        acts = new Acts(hall);
        clues = new Clues(acts);
        habits = new Habits(acts);
        rush = new Rush(acts);
        stands = new Stands();
        crowd = new Crowd(acts);
    }

    public int feed(int a, int b, int c, int d, int e) {
        if (!tape.hasRoom()) {
            return NONE;
        }
        tape.add(a);
        tape.add(b);
        tape.add(c);
        tape.add(d);
        tape.add(e);
        return tape.length;
    }

    public int end(int n) {
        if (n < 0 || n > tape.length) {
            return NONE;
        }
        tape.length = n;
        return n;
    }

    public int hall() {
        if (!reader.tell(draft)) {
            return FAULTY;
        }
        tape.length = 0;
        Hall told = draft;
        draft = hall;
        hall = told;
        acts.play(hall);
        return hall.lines;
    }

    public int fault(int what) {
        if (what == 0) {
            return reader.fault;
        }
        return what == 1 ? reader.faultPlace : NONE;
    }

    public int place(int place, int what) {
        if (!hall.hasPlace(place)) {
            return NO_SUCH;
        }
        switch (what) {
            case 0:
                return hall.rowOf[place];
            case 1:
                return hall.seatOf[place];
            case 2:
                return hall.leadsTo[place];
            case 3:
                return hall.then[place];
            default:
                return NO_SUCH;
        }
    }

    public int exit(int exit, int what) {
        if (!hall.hasExit(exit)) {
            return NO_SUCH;
        }
        switch (what) {
            case 0:
                return hall.firstPlace[exit];
            case 1:
                return hall.wide[exit];
            case 2:
                return hall.kingFrom[exit];
            case 3:
                return hall.kingTo[exit];
            default:
                return NO_SUCH;
        }
    }

    public int sits(int row, int seat) {
        if (!hall.hasSeat(row, seat)) {
            return NO_SUCH;
        }
        return hall.isTaken(spotOf(row, seat)) ? 1 : 0;
    }

    public int at(int exit, int act) {
        if (!hall.hasExit(exit) || !isAct(act)) {
            return NO_SUCH;
        }
        return acts.placeOf(exit, act);
    }

    public int who(int place, int act) {
        if (!hall.hasPlace(place) || !isAct(act)) {
            return NO_SUCH;
        }
        return acts.exitsAt(place, act);
    }

    public int behind(int exit, int act) {
        if (!hall.hasExit(exit) || !isAct(act)) {
            return NO_SUCH;
        }
        return acts.behindOf(exit, act);
    }

    public int leads(int act, int behind) {
        if (!hall.isTold() || !isAct(act) || !isBehind(behind)) {
            return NO_SUCH;
        }
        return acts.exitsTo(behind, act);
    }

    public int doubles(int act) {
        if (!hall.isTold() || !isAct(act)) {
            return NO_SUCH;
        }
        return acts.doubledPlaces(act);
    }

    public int slip() {
        if (!hall.isTold()) {
            return NO_SUCH;
        }
        for (int act = 0; act < ACTS; act++) {
            if (acts.doubledPlaces(act) != 0) {
                return act;
            }
        }
        return NONE;
    }

    public int round() {
        if (!hall.isTold()) {
            return NO_SUCH;
        }
        for (int act = 1; act < ACTS; act++) {
            if (acts.areAlike(0, act)) {
                return act;
            }
        }
        return NONE;
    }

    public int again() {
        if (!hall.isTold()) {
            return NO_SUCH;
        }
        for (int act = 1; act < ACTS; act++) {
            if (acts.isRepeated(act)) {
                return act;
            }
        }
        return NONE;
    }

    public int next(int exit, int place, int act) {
        if (!hall.hasExit(exit) || !hall.hasPlace(place) || !isAct(act)) {
            return NO_SUCH;
        }
        for (int later = act; later < ACTS; later++) {
            if (acts.placeOf(exit, later) == place) {
                return later;
            }
        }
        return NONE;
    }

    public int sees(int exit) {
        if (!hall.hasExit(exit)) {
            return NO_SUCH;
        }
        int places = 0;
        for (int act = 0; act < ACTS; act++) {
            places |= bit(acts.placeOf(exit, act));
        }
        return places;
    }

    public int far(int row, int seat, int act) {
        if (!hall.hasSeat(row, seat) || !isAct(act)) {
            return NO_SUCH;
        }
        return acts.stepsOut(spotOf(row, seat), act);
    }

    public int by(int row, int seat, int act) {
        if (!hall.hasSeat(row, seat) || !isAct(act)) {
            return NO_SUCH;
        }
        return acts.nearestGood(spotOf(row, seat), act);
    }

    public int falls(int row, int seat, int act) {
        if (!hall.hasSeat(row, seat) || !isAct(act)) {
            return NO_SUCH;
        }
        return acts.fallsTo(spotOf(row, seat), act);
    }

    public int best(int act) {
        if (!hall.isTold() || !isAct(act)) {
            return NO_SUCH;
        }
        return acts.bestSeat(act);
    }

    public int worst(int act) {
        if (!hall.isTold() || !isAct(act)) {
            return NO_SUCH;
        }
        return acts.farthestSteps(act);
    }

    public int kept(int act) {
        if (!hall.isTold() || !isAct(act)) {
            return NO_SUCH;
        }
        return acts.isLawful(act) ? 1 : 0;
    }

    public int breaks(int act) {
        if (!hall.isTold() || !isAct(act)) {
            return NO_SUCH;
        }
        for (int later = act; later < ACTS; later++) {
            if (!acts.isLawful(later)) {
                return later;
            }
        }
        return NONE;
    }

    public int screws(int act) {
        if (!hall.isTold() || !isAct(act)) {
            return NO_SUCH;
        }
        for (int later = act; later < ACTS; later++) {
            if (acts.isLawful(later)) {
                return later - act;
            }
        }
        return NONE;
    }

    public int lawful() {
        if (!hall.isTold()) {
            return NO_SUCH;
        }
        int lawfulActs = 0;
        for (int act = 0; act < ACTS; act++) {
            if (acts.isLawful(act)) {
                lawfulActs++;
            }
        }
        return lawfulActs;
    }

    public int out(int act, int n) {
        if (!hall.isTold() || !isAct(act) || n < 0 || n > MOST_MINUTES) {
            return NO_SUCH;
        }
        return rush.mostOut(act, n, NONE);
    }

    public int soonest(int act) {
        if (!hall.isTold() || !isAct(act)) {
            return NO_SUCH;
        }
        return rush.minutesOfAll(act, MOST_MINUTES);
    }

    public int quickest(int n) {
        if (!hall.isTold() || !isCountOfActs(n)) {
            return NO_SUCH;
        }
        int quickestAct = NONE;
        int limit = MOST_MINUTES;
        for (int act = 0; act < n; act++) {
            int minutes = rush.minutesOfAll(act, limit);
            if (minutes != NONE) {
                quickestAct = act;
                limit = minutes - 1;
            }
        }
        return quickestAct;
    }

    public int wider(int act, int n, int exit) {
        if (!hall.hasExit(exit) || !isAct(act) || n < 0 || n > MOST_MINUTES) {
            return NO_SUCH;
        }
        return rush.mostOut(act, n, exit) - rush.mostOut(act, n, NONE);
    }

    public int stand(int n) {
        if (!hall.isTold() || n < 0 || n > MOST_EXITS) {
            return NO_SUCH;
        }
        return stands.leastWorst(hall, n);
    }

    public int stands(int n) {
        if (!hall.isTold() || n < 0 || n > MOST_EXITS) {
            return NO_SUCH;
        }
        int worst = stands.leastWorst(hall, n);
        return worst == NONE ? NONE : stands.leastSet(hall, n, worst);
    }

    public int needs() {
        if (!hall.isTold()) {
            return NO_SUCH;
        }
        for (int n = 1; n <= MOST_EXITS; n++) {
            if (stands.leastSet(hall, n, hall.law) != NONE) {
                return n;
            }
        }
        return NONE;
    }

    public int wind(int act) {
        if (!hall.isTold() || !isAct(act)) {
            return NO_SUCH;
        }
        return acts.windyPairs(act);
    }

    public int calmest(int n) {
        if (!hall.isTold() || !isCountOfActs(n)) {
            return NO_SUCH;
        }
        int calmestAct = 0;
        int least = acts.windyPairs(0);
        for (int act = 1; act < n; act++) {
            int pairs = acts.windyPairs(act);
            if (pairs < least) {
                least = pairs;
                calmestAct = act;
            }
        }
        return calmestAct;
    }

    public long seen(int slot) {
        int refusal = refusalOfSeen(slot);
        return refusal != 0 ? refusal : clues.actsSeen(slots[slot]);
    }

    public int ask(int slot) {
        int refusal = refusalOfSeen(slot);
        return refusal != 0 ? refusal : clues.bestQuestion(clues.actsSeen(slots[slot]));
    }

    public int leaves(int slot) {
        int refusal = refusalOfSeen(slot);
        return refusal != 0 ? refusal : clues.leftAtWorst(clues.actsSeen(slots[slot]));
    }

    public long fell(int slot) {
        int refusal = refusalOfFell(slot);
        return refusal != 0 ? refusal : clues.actsFell(slots[slot]);
    }

    public int many(int slot) {
        int refusal = refusalOfFell(slot);
        return refusal != 0 ? refusal : Long.bitCount(clues.actsFell(slots[slot]));
    }

    public int sure(int slot, int exit) {
        // A missing EXIT is asked ahead of an empty SLOT, as every -2 but a number's is.
        if (!hall.hasExit(exit)) {
            return NO_SUCH;
        }
        int refusal = refusalOfFell(slot);
        return refusal != 0 ? refusal : clues.onlyPlace(exit, clues.actsFell(slots[slot]));
    }

    public int known(int row, int seat, int n) {
        if (!hall.hasSeat(row, seat) || !isCountOfActs(n)) {
            return NO_SUCH;
        }
        return habits.stepsKnowing(spotOf(row, seat), n);
    }

    public int blind(int row, int seat, int n) {
        if (!hall.hasSeat(row, seat) || !isCountOfActs(n) || hall.places == 0) {
            return NO_SUCH;
        }
        habits.countGoodActs(n);
        int spot = spotOf(row, seat);
        return habits.stepsBlind(spot, habits.bestPlace(spot, n), n);
    }

    public int goes(int row, int seat, int n) {
        if (!hall.hasSeat(row, seat) || !isCountOfActs(n) || hall.places == 0) {
            return NO_SUCH;
        }
        habits.countGoodActs(n);
        return habits.bestPlace(spotOf(row, seat), n);
    }

    public int worth(int n) {
        if (!isCountOfActs(n) || hall.places == 0) {
            return NO_SUCH;
        }
        habits.countGoodActs(n);
        int more = 0;
        for (int spot = 0; spot < SPOTS; spot++) {
            if (hall.isTaken(spot)) {
                more += habits.stepsBlind(spot, habits.bestPlace(spot, n), n) - habits.stepsKnowing(spot, n);
            }
        }
        return more;
    }

    public int lured(int act, int behind) {
        if (!hall.isTold() || !isAct(act) || !isBehind(behind)) {
            return NO_SUCH;
        }
        return acts.luredTo(behind, act);
    }

    public int danger(int behind) {
        if (!hall.isTold() || !isBehind(behind)) {
            return NO_SUCH;
        }
        int worstAct = 0;
        int most = 0;
        for (int act = 0; act < ACTS; act++) {
            int lost = acts.luredTo(behind, act);
            if (lost > most) {
                most = lost;
                worstAct = act;
            }
        }
        return worstAct;
    }

    public int claque(int exit, int act) {
        if (!hall.hasExit(exit) || !isAct(act)) {
            return NO_SUCH;
        }
        return acts.goesTillOut(exit, act);
    }

    public int lastly(int exit, int act) {
        if (!hall.hasExit(exit) || !isAct(act)) {
            return NO_SUCH;
        }
        int goes = acts.goesTillOut(exit, act);
        return goes == NONE ? NONE : acts.placeOf((exit + goes) % hall.exits, (act + goes) % ACTS);
    }

    public int screw(int place, int then) {
        if (!hall.hasPlace(place) || then < 0 || then >= MOST_PLACES) {
            return NO_SUCH;
        }
        if (hall.changes.isFull()) {
            return NO_CHANGE;
        }
        int was = hall.then[place];
        hall.changes.add(Changes.THEN, place, was, NONE);
        hall.then[place] = then;
        acts.play(hall);
        return was;
    }

    public int king(int exit, int from, int to) {
        boolean never = from == NONE && to == NONE;
        if (!hall.hasExit(exit) || !never && (!isAct(from) || !isAct(to) || to < from)) {
            return NO_SUCH;
        }
        if (hall.changes.isFull()) {
            return NO_CHANGE;
        }
        hall.changes.add(Changes.KING, exit, hall.kingFrom[exit], hall.kingTo[exit]);
        hall.kingFrom[exit] = from;
        hall.kingTo[exit] = to;
        acts.play(hall);
        return 0;
    }

    public int seats(int row, int seat, int is) {
        if (!hall.hasSeat(row, seat) || is < 0 || is > 1) {
            return NO_SUCH;
        }
        if (hall.changes.isFull()) {
            return NO_CHANGE;
        }
        int spot = spotOf(row, seat);
        int was = hall.isTaken(spot) ? 1 : 0;
        hall.changes.add(Changes.SITS, spot, was, NONE);
        hall.setTaken(spot, is == 1);
        return was;
    }

    public int undo() {
        if (!hall.isTold()) {
            return NO_SUCH;
        }
        if (!hall.takeBack()) {
            return NO_CHANGE;
        }
        acts.play(hall);
        return hall.changes.size;
    }

    public int drawn(int seed, int act, int what) {
        if (!canDraw(seed, act) || what < 0 || what > BEHINDS) {
            return NO_SUCH;
        }
        crowd.draw(seed, act);
        return what == BEHINDS ? crowd.steps : crowd.comers[what];
    }

    public int lucky(int seed, int n, int act) {
        if (!canDraw(seed, act) || n < 1 || n > MOST_CROWDS) {
            return NO_SUCH;
        }
        int luckyCrowds = 0;
        for (int k = 0; k < n; k++) {
            crowd.draw(seed + k, act);
            if (crowd.isLucky()) {
                luckyCrowds++;
            }
        }
        return luckyCrowds;
    }

    public int count(int what) {
        switch (what) {
            case 0:
                return hall.rows;
            case 1:
                return hall.seats;
            case 2:
                return hall.law;
            case 3:
                return hall.places;
            case 4:
                return hall.exits;
            case 5:
                return Long.bitCount(hall.sitters);
            case 6:
                return hall.changes.size;
            case 7:
                return hall.lines;
            case 8:
                return tape.length;
            case 9:
                return slotsWithRow();
            default:
                return NONE;
        }
    }

    public int image(int k) {
        if (k < 0 || k >= IMAGES) {
            return NO_SUCH;
        }
        images[k].copyFrom(hall);
        imageMade[k] = true;
        return 0;
    }

    public int back(int k) {
        if (k < 0 || k >= IMAGES) {
            return NO_SUCH;
        }
        if (!imageMade[k]) {
            return NOTHING;
        }
        hall.copyFrom(images[k]);
        acts.play(hall);
        return 0;
    }

    public int row(int slot, int width, int n) {
        if (!isSlot(slot) || width < 0 || width >= WIDTHS || n > MOST_NUMBERS) {
            return NO_SUCH;
        }
        if (n < 0) {
            return BELOW;
        }
        slots[slot].lay(width, n);
        return 0;
    }

    public int write(int slot, int i, long v) {
        if (!isSlot(slot)) {
            return NO_SUCH;
        }
        Slot row = slots[slot];
        if (!row.hasRow()) {
            return NOTHING;
        }
        if (i < 0 || i >= row.length) {
            return BEYOND;
        }
        row.put(i, v);
        return 0;
    }

    public int paste(int slot, int i, int to, int k, int n) {
        if (!isSlot(slot) || !isSlot(to)) {
            return NO_SUCH;
        }
        Slot source = slots[slot];
        Slot target = slots[to];
        if (!source.hasRow() || !target.hasRow()) {
            return NOTHING;
        }
        if (source.width != target.width) {
            return UNLIKE;
        }
        if (!source.hasRange(i, n) || !target.hasRange(k, n)) {
            return BEYOND;
        }
        System.arraycopy(source.numbers, i, target.numbers, k, n);
        return 0;
    }

    private static boolean isAct(int act) {
        return act >= 0 && act < ACTS;
    }

    private static boolean isCountOfActs(int n) {
        return n >= 1 && n <= ACTS;
    }

    private static boolean isBehind(int behind) {
        return behind >= 0 && behind < BEHINDS;
    }

    private static boolean isSlot(int slot) {
        return slot >= 0 && slot < SLOTS;
    }

    private static int spotOf(int row, int seat) {
        return row * SIDE + seat;
    }

    private static int bit(int number) {
        return number < 0 ? 0 : 1 << number;
    }

    private static long spotBit(int spot) {
        return 1L << spot;
    }

    private boolean canDraw(int seed, int act) {
        return seed >= 0 && seed <= GREATEST_SEED && isAct(act) && hall.exits > 0;
    }

    private int refusalOfSeen(int slot) {
        int refusal = refusalOfRow(slot, 2);
        if (refusal != 0) {
            return refusal;
        }
        return clues.areExitsAndPlaces(slots[slot]) ? 0 : NO_SUCH;
    }

    private int refusalOfFell(int slot) {
        int refusal = refusalOfRow(slot, 3);
        if (refusal != 0) {
            return refusal;
        }
        return clues.areSeatsAndBehinds(slots[slot]) ? 0 : NO_SUCH;
    }

    private int refusalOfRow(int slot, int each) {
        if (!isSlot(slot) || !hall.isTold() || each < 1) {
            return NO_SUCH;
        }
        if (!slots[slot].hasRow()) {
            return NOTHING;
        }
        return slots[slot].length % each == 0 ? 0 : NO_SUCH;
    }

    private int slotsWithRow() {
        int rows = 0;
        for (int slot = 0; slot < SLOTS; slot++) {
            if (slots[slot].hasRow()) {
                rows++;
            }
        }
        return rows;
    }

    /** The bytes that came and are no HALL yet. */
    private static final class Tape {
        final byte[] bytes = new byte[MOST_BYTES];
        int length;

        boolean hasRoom() {
            return length + BYTES_OF_FEED <= MOST_BYTES;
        }

        void add(int number) {
            for (int shift = 24; shift >= 0 && length < MOST_BYTES; shift -= 8) {
                bytes[length] = (byte) (number >> shift);
                length++;
            }
        }

        /** A byte as it was told, 0 .. 255, or NONE behind the end. */
        int byteAt(int index) {
            return index >= 0 && index < length && index < MOST_BYTES ? bytes[index] & 255 : NONE;
        }
    }

    /** Reads a TAPE token by token, and stops at the first FAULT: all are told left to right. */
    private static final class Reader {
        static final int END = -1;
        static final int NO_TOKEN = -2;
        static final int NUMBER = -3;
        static final int SEMICOLON = -4;
        // A word is its letters' numbers (a is 1), five bits each: none of the text's has more than five.
        static final int LONGEST_WORD = 5;
        static final int HALL = ((8 * 32 + 1) * 32 + 12) * 32 + 12;
        static final int ROWS = ((18 * 32 + 15) * 32 + 23) * 32 + 19;
        static final int SEATS = (((19 * 32 + 5) * 32 + 1) * 32 + 20) * 32 + 19;
        static final int LAW = (12 * 32 + 1) * 32 + 23;
        static final int PLACE = (((16 * 32 + 12) * 32 + 1) * 32 + 3) * 32 + 5;
        static final int TO = 20 * 32 + 15;
        static final int THEN = ((20 * 32 + 8) * 32 + 5) * 32 + 14;
        static final int EXIT = ((5 * 32 + 24) * 32 + 9) * 32 + 20;
        static final int WIDE = ((23 * 32 + 9) * 32 + 4) * 32 + 5;
        static final int KING = ((11 * 32 + 9) * 32 + 14) * 32 + 7;
        static final int SITS = ((19 * 32 + 9) * 32 + 20) * 32 + 19;

        static final int MISPLACED = 1;
        static final int OUT_OF_BOUNDS = 2;
        static final int TOO_MANY = 3;
        // Above every bound of the text, and far below where ten times it would wrap.
        static final int GREAT = 100000;

        int fault;
        int faultPlace = NONE;
        private final Tape tape;
        private Hall told;
        private int position;
        private int token;
        private int tokenPlace;
        private int tokenValue;
        private int number;
        private int numberPlace;

        Reader(Tape text, Hall target) {
            tape = text;
            told = target;
        }

        boolean tell(Hall target) {
            told = target;
            told.clear();
            fault = 0;
            faultPlace = NONE;
            position = 0;
            advance();
            for (int line = 0; line <= MOST_BYTES && token != END && fault == 0; line++) {
                boolean isRead;
                if (told.lines == 0) {
                    isRead = readHall();
                } else if (token == PLACE) {
                    isRead = readPlace();
                } else if (token == EXIT) {
                    isRead = readExit();
                } else {
                    isRead = readSits();
                }
                if (isRead && take(SEMICOLON)) {
                    told.lines++;
                }
            }
            return fault == 0;
        }

        private boolean readHall() {
            if (!take(HALL) || !take(ROWS) || !takeNumber(1, SIDE)) {
                return false;
            }
            told.rows = number;
            if (!take(SEATS) || !takeNumber(1, SIDE)) {
                return false;
            }
            told.seats = number;
            if (!take(LAW) || !takeNumber(0, 12)) {
                return false;
            }
            told.law = number;
            return true;
        }

        private boolean readPlace() {
            int place = told.places;
            if (place >= MOST_PLACES) {
                return refuse(TOO_MANY, tokenPlace);
            }
            if (!take(PLACE) || !takeNumber(0, told.rows - 1)) {
                return false;
            }
            told.rowOf[place] = number;
            if (!takeNumber(0, told.seats - 1)) {
                return false;
            }
            told.seatOf[place] = number;
            if (told.hasPlaceLike(place)) {
                return refuse(OUT_OF_BOUNDS, numberPlace);
            }
            if (!take(TO) || !takeNumber(0, BEHINDS - 1)) {
                return false;
            }
            told.leadsTo[place] = number;
            if (!take(THEN) || !takeNumber(0, MOST_PLACES - 1)) {
                return false;
            }
            told.then[place] = number;
            told.places++;
            return true;
        }

        private boolean readExit() {
            int exit = told.exits;
            if (exit >= MOST_EXITS) {
                return refuse(TOO_MANY, tokenPlace);
            }
            if (!take(EXIT) || !takeNumber(0, told.places - 1)) {
                return false;
            }
            if (told.hasExitAt(number)) {
                return refuse(OUT_OF_BOUNDS, numberPlace);
            }
            told.firstPlace[exit] = number;
            if (!take(WIDE) || !takeNumber(1, 3)) {
                return false;
            }
            told.wide[exit] = number;
            told.kingFrom[exit] = NONE;
            told.kingTo[exit] = NONE;
            if (token == KING && !readKing(exit)) {
                return false;
            }
            told.exits++;
            return true;
        }

        private boolean readKing(int exit) {
            if (!take(KING) || !takeNumber(0, ACTS - 1)) {
                return false;
            }
            int from = number;
            if (!take(TO) || !takeNumber(from, ACTS - 1)) {
                return false;
            }
            if (exit >= 0 && exit < MOST_EXITS) {
                told.kingFrom[exit] = from;
                told.kingTo[exit] = number;
            }
            return true;
        }

        private boolean readSits() {
            if (!take(SITS) || !takeNumber(0, told.rows - 1)) {
                return false;
            }
            int row = number;
            if (!takeNumber(0, told.seats - 1)) {
                return false;
            }
            int spot = spotOf(row, number);
            if (told.isTaken(spot)) {
                return refuse(OUT_OF_BOUNDS, numberPlace);
            }
            told.setTaken(spot, true);
            return true;
        }

        private boolean take(int wanted) {
            if (token != wanted) {
                return refuse(MISPLACED, tokenPlace);
            }
            advance();
            return true;
        }

        /** Leaves what it was in number, and where it stood in numberPlace: the token is the next one then. */
        private boolean takeNumber(int least, int most) {
            if (token != NUMBER) {
                return refuse(MISPLACED, tokenPlace);
            }
            numberPlace = tokenPlace;
            if (tokenValue < least || tokenValue > most) {
                return refuse(OUT_OF_BOUNDS, numberPlace);
            }
            number = tokenValue;
            advance();
            return true;
        }

        private boolean refuse(int kind, int at) {
            fault = kind;
            faultPlace = at;
            return false;
        }

        private void advance() {
            int sign = tape.byteAt(position);
            while (position < MOST_BYTES && (sign == 32 || sign == 10)) {
                position++;
                sign = tape.byteAt(position);
            }
            tokenPlace = position;
            if (sign == NONE) {
                token = END;
            } else if (sign >= '0' && sign <= '9') {
                readNumber();
            } else if (sign >= 'a' && sign <= 'z') {
                readWord();
            } else {
                token = sign == ';' ? SEMICOLON : NO_TOKEN;
                position++;
            }
        }

        private void readNumber() {
            token = NUMBER;
            tokenValue = 0;
            int sign = tape.byteAt(position);
            while (position < MOST_BYTES && sign >= '0' && sign <= '9') {
                tokenValue = Math.min(GREAT, tokenValue * 10 + sign - '0');
                position++;
                sign = tape.byteAt(position);
            }
        }

        private void readWord() {
            token = 0;
            int sign = tape.byteAt(position);
            while (position < MOST_BYTES && sign >= 'a' && sign <= 'z') {
                if (position - tokenPlace < LONGEST_WORD) {
                    token = token * 32 + sign - 'a' + 1;
                }
                position++;
                sign = tape.byteAt(position);
            }
            if (position - tokenPlace > LONGEST_WORD) {
                token = NO_TOKEN;
            }
        }
    }

    /** What was told, with the changes since; without LINES it is no HALL. */
    private static final class Hall {
        int lines;
        int rows;
        int seats;
        int law;
        int places;
        int exits;
        // Bit 6 times the ROW and the SEAT: somebody sits there.
        long sitters;
        final int[] rowOf = new int[MOST_PLACES];
        final int[] seatOf = new int[MOST_PLACES];
        final int[] leadsTo = new int[MOST_PLACES];
        final int[] then = new int[MOST_PLACES];
        final int[] firstPlace = new int[MOST_EXITS];
        final int[] wide = new int[MOST_EXITS];
        final int[] kingFrom = new int[MOST_EXITS];
        final int[] kingTo = new int[MOST_EXITS];
        final Changes changes = new Changes();

        void clear() {
            lines = 0;
            rows = 0;
            seats = 0;
            law = 0;
            places = 0;
            exits = 0;
            sitters = 0;
            changes.size = 0;
        }

        void copyFrom(Hall other) {
            lines = other.lines;
            rows = other.rows;
            seats = other.seats;
            law = other.law;
            places = other.places;
            exits = other.exits;
            sitters = other.sitters;
            System.arraycopy(other.rowOf, 0, rowOf, 0, MOST_PLACES);
            System.arraycopy(other.seatOf, 0, seatOf, 0, MOST_PLACES);
            System.arraycopy(other.leadsTo, 0, leadsTo, 0, MOST_PLACES);
            System.arraycopy(other.then, 0, then, 0, MOST_PLACES);
            System.arraycopy(other.firstPlace, 0, firstPlace, 0, MOST_EXITS);
            System.arraycopy(other.wide, 0, wide, 0, MOST_EXITS);
            System.arraycopy(other.kingFrom, 0, kingFrom, 0, MOST_EXITS);
            System.arraycopy(other.kingTo, 0, kingTo, 0, MOST_EXITS);
            changes.keep(other.changes);
        }

        boolean isTold() {
            return lines > 0;
        }

        boolean hasSeat(int row, int seat) {
            return row >= 0 && row < rows && seat >= 0 && seat < seats;
        }

        boolean hasPlace(int place) {
            return place >= 0 && place < places && place < MOST_PLACES;
        }

        boolean hasExit(int exit) {
            return exit >= 0 && exit < exits && exit < MOST_EXITS;
        }

        boolean hasPlaceLike(int place) {
            for (int other = 0; other < place && other < MOST_PLACES && place < MOST_PLACES; other++) {
                if (rowOf[other] == rowOf[place] && seatOf[other] == seatOf[place]) {
                    return true;
                }
            }
            return false;
        }

        boolean hasExitAt(int place) {
            for (int exit = 0; exit < exits && exit < MOST_EXITS; exit++) {
                if (firstPlace[exit] == place) {
                    return true;
                }
            }
            return false;
        }

        boolean isTaken(int spot) {
            return (sitters & spotBit(spot)) != 0;
        }

        void setTaken(int spot, boolean taken) {
            sitters = taken ? sitters | spotBit(spot) : sitters & ~spotBit(spot);
        }

        boolean isGood(int place) {
            return hasPlace(place) && (leadsTo[place] == 0 || leadsTo[place] == 4);
        }

        int spotBy(int place) {
            return hasPlace(place) ? spotOf(rowOf[place], seatOf[place]) : 0;
        }

        /** Steps from a SEAT to a PLACE, and the one out. */
        int stepsBy(int spot, int place) {
            if (place < 0 || place >= places || place >= MOST_PLACES) {
                return NO_WAY_OUT;
            }
            return Math.abs(spot / SIDE - rowOf[place]) + Math.abs(spot % SIDE - seatOf[place]) + 1;
        }

        boolean isKings(int exit, int act) {
            return hasExit(exit) && kingFrom[exit] != NONE && kingFrom[exit] <= act && act <= kingTo[exit];
        }

        /** Where the screws bring an EXIT from a PLACE, past the PLACES (as bits) that a king's holds. */
        int placeAfter(int place, int held) {
            int target = place;
            for (int turn = 0; turn < MOST_PLACES && hasPlace(target); turn++) {
                target = then[target];
                if (hasPlace(target) && (held & bit(target)) == 0) {
                    return target;
                }
            }
            return place;
        }

        boolean takeBack() {
            if (changes.size <= 0 || changes.size > MOST_CHANGES) {
                return false;
            }
            changes.size--;
            int latest = changes.size;
            int which = changes.which[latest];
            switch (changes.kind[latest]) {
                case Changes.THEN:
                    if (hasPlace(which)) {
                        then[which] = changes.first[latest];
                    }
                    break;
                case Changes.KING:
                    if (hasExit(which)) {
                        kingFrom[which] = changes.first[latest];
                        kingTo[which] = changes.second[latest];
                    }
                    break;
                default:
                    setTaken(which, changes.first[latest] == 1);
                    break;
            }
            return true;
        }
    }

    /** What each change took the place of, the latest last. */
    private static final class Changes {
        static final int THEN = 0;
        static final int KING = 1;
        static final int SITS = 2;

        int size;
        final int[] kind = new int[MOST_CHANGES];
        final int[] which = new int[MOST_CHANGES];
        final int[] first = new int[MOST_CHANGES];
        final int[] second = new int[MOST_CHANGES];

        boolean isFull() {
            return size >= MOST_CHANGES;
        }

        void add(int whatKind, int ofWhich, int was, int wasToo) {
            if (isFull()) {
                return;
            }
            kind[size] = whatKind;
            which[size] = ofWhich;
            first[size] = was;
            second[size] = wasToo;
            size++;
        }

        void keep(Changes other) {
            size = other.size;
            System.arraycopy(other.kind, 0, kind, 0, MOST_CHANGES);
            System.arraycopy(other.which, 0, which, 0, MOST_CHANGES);
            System.arraycopy(other.first, 0, first, 0, MOST_CHANGES);
            System.arraycopy(other.second, 0, second, 0, MOST_CHANGES);
        }
    }

    /** Where each EXIT of a HALL is in each ACT, and what follows from it. */
    private static final class Acts {
        Hall hall;
        private final int[] placeIn = new int[ACTS * MOST_EXITS];
        // Of each ACT and SEAT, found when an ACT is first asked for: most calls ask for many SEATS.
        private final boolean[] isPaced = new boolean[ACTS];
        private final int[] goodSteps = new int[ACTS * SPOTS];
        private final int[] nearestBehind = new int[ACTS * SPOTS];

        Acts(Hall played) {
            hall = played;
        }

        void play(Hall played) {
            hall = played;
            for (int exit = 0; exit < hall.exits && exit < MOST_EXITS; exit++) {
                placeIn[exit] = hall.firstPlace[exit];
            }
            for (int act = 0; act + 1 < ACTS; act++) {
                turnScrews(act);
            }
            for (int act = 0; act < ACTS; act++) {
                isPaced[act] = false;
            }
        }

        private void turnScrews(int act) {
            int held = 0;
            for (int exit = 0; exit < hall.exits; exit++) {
                if (staysAsKings(exit, act)) {
                    held |= bit(placeOf(exit, act));
                }
            }
            for (int exit = 0; exit < hall.exits && exit < MOST_EXITS; exit++) {
                int place = placeOf(exit, act);
                placeIn[(act + 1) * MOST_EXITS + exit] =
                    staysAsKings(exit, act) ? place : hall.placeAfter(place, held);
            }
        }

        private boolean staysAsKings(int exit, int act) {
            return hall.isKings(exit, act) && hall.isKings(exit, act + 1);
        }

        int placeOf(int exit, int act) {
            if (exit < 0 || exit >= MOST_EXITS || act < 0 || act >= ACTS) {
                return 0;
            }
            return placeIn[act * MOST_EXITS + exit];
        }

        int behindOf(int exit, int act) {
            int place = placeOf(exit, act);
            return hall.hasPlace(place) ? hall.leadsTo[place] : NONE;
        }

        boolean isGoodExit(int exit, int act) {
            return hall.isGood(placeOf(exit, act));
        }

        int exitsAt(int place, int act) {
            int exits = 0;
            for (int exit = 0; exit < hall.exits; exit++) {
                if (placeOf(exit, act) == place) {
                    exits |= bit(exit);
                }
            }
            return exits;
        }

        int exitsTo(int behind, int act) {
            int exits = 0;
            for (int exit = 0; exit < hall.exits; exit++) {
                if (behindOf(exit, act) == behind) {
                    exits |= bit(exit);
                }
            }
            return exits;
        }

        int doubledPlaces(int act) {
            int once = 0;
            int twice = 0;
            for (int exit = 0; exit < hall.exits; exit++) {
                int here = bit(placeOf(exit, act));
                twice |= once & here;
                once |= here;
            }
            return twice;
        }

        boolean areAlike(int act, int other) {
            for (int exit = 0; exit < hall.exits; exit++) {
                if (placeOf(exit, act) != placeOf(exit, other)) {
                    return false;
                }
            }
            return true;
        }

        boolean isRepeated(int act) {
            for (int earlier = 0; earlier < act; earlier++) {
                if (areAlike(earlier, act)) {
                    return true;
                }
            }
            return false;
        }

        /** The cell of an ACT and a SEAT in the rows of what is nearest. */
        private int paced(int spot, int act) {
            if (act < 0 || act >= ACTS || spot < 0 || spot >= SPOTS) {
                return 0;
            }
            if (!isPaced[act]) {
                isPaced[act] = true;
                paceAll(act);
            }
            return act * SPOTS + spot;
        }

        private void paceAll(int act) {
            for (int row = 0; row < hall.rows; row++) {
                for (int seat = 0; seat < hall.seats; seat++) {
                    int spot = spotOf(row, seat);
                    int fewestGood = NO_WAY_OUT;
                    int fewest = NO_WAY_OUT;
                    int behind = NONE;
                    for (int exit = 0; exit < hall.exits; exit++) {
                        int place = placeOf(exit, act);
                        int steps = hall.stepsBy(spot, place);
                        if (steps < fewest) {
                            fewest = steps;
                            behind = behindOf(exit, act);
                        }
                        if (hall.isGood(place)) {
                            fewestGood = Math.min(fewestGood, steps);
                        }
                    }
                    goodSteps[act * SPOTS + spot] = fewestGood == NO_WAY_OUT ? NONE : fewestGood;
                    nearestBehind[act * SPOTS + spot] = behind;
                }
            }
        }

        int stepsOut(int spot, int act) {
            return goodSteps[paced(spot, act)];
        }

        int fallsTo(int spot, int act) {
            return nearestBehind[paced(spot, act)];
        }

        int nearestGood(int spot, int act) {
            int fewest = stepsOut(spot, act);
            for (int exit = 0; exit < hall.exits; exit++) {
                int place = placeOf(exit, act);
                if (hall.isGood(place) && hall.stepsBy(spot, place) == fewest) {
                    return exit;
                }
            }
            return NONE;
        }

        int bestSeat(int act) {
            int best = NONE;
            int fewest = NO_WAY_OUT;
            for (int row = 0; row < hall.rows; row++) {
                for (int seat = 0; seat < hall.seats; seat++) {
                    int steps = stepsOut(spotOf(row, seat), act);
                    if (steps != NONE && steps < fewest) {
                        fewest = steps;
                        best = row * 10 + seat;
                    }
                }
            }
            return best;
        }

        int farthestSteps(int act) {
            int most = NONE;
            for (int row = 0; row < hall.rows; row++) {
                for (int seat = 0; seat < hall.seats; seat++) {
                    most = Math.max(most, stepsOut(spotOf(row, seat), act));
                }
            }
            return most;
        }

        boolean isLawful(int act) {
            int most = farthestSteps(act);
            return most != NONE && most <= hall.law;
        }

        int windyPairs(int act) {
            int pairs = 0;
            for (int exit = 0; exit < hall.exits; exit++) {
                for (int other = 0; other < exit; other++) {
                    if (isDraught(placeOf(exit, act), placeOf(other, act))) {
                        pairs++;
                    }
                }
            }
            return pairs;
        }

        private boolean isDraught(int place, int other) {
            if (place == other || !hall.hasPlace(place) || !hall.hasPlace(other)) {
                return false;
            }
            return hall.rowOf[place] == hall.rowOf[other] || hall.seatOf[place] == hall.seatOf[other];
        }

        int luredTo(int behind, int act) {
            int lost = 0;
            for (int spot = 0; spot < SPOTS; spot++) {
                if (hall.isTaken(spot) && fallsTo(spot, act) == behind) {
                    lost++;
                }
            }
            return lost;
        }

        /** How often a CLAQUE comes in again till it is out for good. */
        int goesTillOut(int exit, int act) {
            if (!hall.hasExit(exit) || hall.exits <= 0) {
                return NONE;
            }
            for (int goes = 0; goes < ACTS; goes++) {
                if (isGoodExit((exit + goes) % hall.exits, (act + goes) % ACTS)) {
                    return goes;
                }
            }
            return NONE;
        }
    }

    /** Which ACTS fit what a SLOT's row tells. */
    private static final class Clues {
        private static final long ALL_ACTS = (1L << ACTS) - 1;

        private final Acts acts;
        private final int[] actsWith = new int[MOST_PLACES];

        Clues(Acts played) {
            acts = played;
        }

        boolean areExitsAndPlaces(Slot row) {
            for (int i = 0; i + 1 < row.length; i += 2) {
                if (!acts.hall.hasExit(row.small(i)) || !acts.hall.hasPlace(row.small(i + 1))) {
                    return false;
                }
            }
            return true;
        }

        boolean areSeatsAndBehinds(Slot row) {
            for (int i = 0; i + 2 < row.length; i += 3) {
                if (!acts.hall.hasSeat(row.small(i), row.small(i + 1)) || !isBehind(row.small(i + 2))) {
                    return false;
                }
            }
            return true;
        }

        long actsSeen(Slot row) {
            long fitting = ALL_ACTS;
            for (int act = 0; act < ACTS; act++) {
                for (int i = 0; i + 1 < row.length; i += 2) {
                    if (acts.placeOf(row.small(i), act) != row.small(i + 1)) {
                        fitting &= ~(1L << act);
                    }
                }
            }
            return fitting;
        }

        long actsFell(Slot row) {
            long fitting = ALL_ACTS;
            for (int act = 0; act < ACTS; act++) {
                for (int i = 0; i + 2 < row.length; i += 3) {
                    int spot = spotOf(row.small(i), row.small(i + 1));
                    if (acts.fallsTo(spot, act) != row.small(i + 2)) {
                        fitting &= ~(1L << act);
                    }
                }
            }
            return fitting;
        }

        int bestQuestion(long fitting) {
            int best = NONE;
            int fewest = Long.bitCount(fitting);
            for (int exit = 0; exit < acts.hall.exits; exit++) {
                int left = leftByAsking(exit, fitting);
                if (left < fewest) {
                    fewest = left;
                    best = exit;
                }
            }
            return best;
        }

        int leftAtWorst(long fitting) {
            int exit = bestQuestion(fitting);
            return exit == NONE ? Long.bitCount(fitting) : leftByAsking(exit, fitting);
        }

        private int leftByAsking(int exit, long fitting) {
            for (int place = 0; place < MOST_PLACES; place++) {
                actsWith[place] = 0;
            }
            int most = 0;
            for (int act = 0; act < ACTS; act++) {
                int place = acts.placeOf(exit, act);
                if ((fitting >> act & 1) == 1 && acts.hall.hasPlace(place)) {
                    actsWith[place]++;
                    most = Math.max(most, actsWith[place]);
                }
            }
            return most;
        }

        /** The PLACE of an EXIT in all these ACTS, NONE if it has unlike ones or there are none. */
        int onlyPlace(int exit, long fitting) {
            int only = NONE;
            for (int act = 0; act < ACTS; act++) {
                if ((fitting >> act & 1) == 1) {
                    int place = acts.placeOf(exit, act);
                    if (only != NONE && only != place) {
                        return NONE;
                    }
                    only = place;
                }
            }
            return only;
        }
    }

    /** What knowing where EXITS are saves against always going to one PLACE. */
    private static final class Habits {
        private final Acts acts;
        private final int[] goodActs = new int[MOST_PLACES];

        Habits(Acts played) {
            acts = played;
        }

        int stepsKnowing(int spot, int n) {
            int together = 0;
            for (int act = 0; act < n; act++) {
                int steps = acts.stepsOut(spot, act);
                together += steps == NONE ? NO_WAY_OUT : steps;
            }
            return together;
        }

        /** In how many of n ACTS each PLACE has a GOOD EXIT: the blind sums of all SEATS need only this. */
        void countGoodActs(int n) {
            for (int place = 0; place < MOST_PLACES; place++) {
                goodActs[place] = 0;
                for (int act = 0; act < n && acts.hall.isGood(place); act++) {
                    if (acts.exitsAt(place, act) != 0) {
                        goodActs[place]++;
                    }
                }
            }
        }

        int stepsBlind(int spot, int place, int n) {
            if (!acts.hall.hasPlace(place)) {
                return n * NO_WAY_OUT;
            }
            int good = goodActs[place];
            return good * acts.hall.stepsBy(spot, place) + (n - good) * NO_WAY_OUT;
        }

        int bestPlace(int spot, int n) {
            int best = 0;
            for (int place = 1; place < acts.hall.places; place++) {
                if (stepsBlind(spot, place, n) < stepsBlind(spot, best, n)) {
                    best = place;
                }
            }
            return best;
        }
    }

    /** Sets of PLACES at which EXITS could stand, told by which SEATS they are near enough to. */
    private static final class Stands {
        private final long[] near = new long[1 << MOST_PLACES];

        int leastWorst(Hall hall, int n) {
            for (int steps = 1; steps <= FARTHEST; steps++) {
                if (leastSet(hall, n, steps) != NONE) {
                    return steps;
                }
            }
            return NONE;
        }

        /** The least set of at most n GOOD PLACES from which no SEAT is farther than so many steps, or NONE. */
        int leastSet(Hall hall, int n, int steps) {
            long all = spotsWithin(hall, NONE, steps);
            int sets = 1 << Math.max(0, Math.min(hall.places, MOST_PLACES));
            near[0] = 0;
            for (int place = 0; place < hall.places && place < MOST_PLACES; place++) {
                near[1 << place] = spotsWithin(hall, place, steps);
            }
            for (int set = 1; set < sets && set < near.length; set++) {
                int rest = set & (set - 1);
                near[set] = near[rest] | near[set - rest];
                if (near[set] == all && Integer.bitCount(set) <= n && areGood(hall, set)) {
                    return set;
                }
            }
            return NONE;
        }

        /** SEATS from which a PLACE is within so many steps; all SEATS for NONE. */
        private static long spotsWithin(Hall hall, int place, int steps) {
            long spots = 0;
            for (int row = 0; row < hall.rows; row++) {
                for (int seat = 0; seat < hall.seats; seat++) {
                    int spot = spotOf(row, seat);
                    if (place == NONE || hall.stepsBy(spot, place) <= steps) {
                        spots |= spotBit(spot);
                    }
                }
            }
            return spots;
        }

        private static boolean areGood(Hall hall, int set) {
            for (int place = 0; place < hall.places && place < MOST_PLACES; place++) {
                if ((set & bit(place)) != 0 && !hall.isGood(place)) {
                    return false;
                }
            }
            return true;
        }
    }

    /**
     * The most that can be out: paths through SEATS and MINUTES, made more one by one, each turning
     * earlier ones aside where that helps. Who stands by a GOOD EXIT goes out at once (nothing is won
     * by staying, since as many go out in a MINUTE as may stand there), so such a SEAT ends a path and
     * every other one has one path at most in a MINUTE.
     */
    private static final class Rush {
        private static final int CELLS = MOST_MINUTES * SPOTS;
        private static final int WAYS = 5;
        private static final int FREE = -1;
        private static final int START = -2;

        private final Acts acts;
        private final int[] wide = new int[SPOTS];
        private final int[] distance = new int[SPOTS];
        // Five SEATS of each: those to which one can go in a MINUTE, its own among them; NONE for a wall.
        private final int[] beside = new int[WAYS * SPOTS];
        // Of a cell (a SEAT in a MINUTE): where its path goes on, where it came from, how many end there.
        private final int[] goesTo = new int[CELLS];
        private final int[] comesFrom = new int[CELLS];
        private final int[] ended = new int[CELLS];
        // Twice a cell is its coming in, and 1 more its going out: a taken SEAT lets none from in to out.
        private final int[] parent = new int[2 * CELLS];
        private final int[] stack = new int[2 * CELLS];
        // SEATS reached in the search, as bits: twice a MINUTE for coming in, and 1 more for going out.
        private final long[] reached = new long[2 * MOST_MINUTES];
        private int stacked;
        private int minutes;
        private int gone;
        private long waiting;
        private int width;

        Rush(Acts played) {
            acts = played;
        }

        int mostOut(int act, int n, int widerExit) {
            gather(act, widerExit);
            if (n < 1) {
                return 0;
            }
            sendAll(n);
            return gone;
        }

        int minutesOfAll(int act, int limit) {
            gather(act, NONE);
            int sitting = Long.bitCount(acts.hall.sitters);
            if (sitting == 0) {
                return limit < 0 ? NONE : 0;
            }
            for (int n = fewestThinkable(); n <= limit && n <= MOST_MINUTES; n++) {
                sendAll(n);
                if (gone == sitting) {
                    return n;
                }
            }
            return NONE;
        }

        /** Below this many MINUTES some would be too far, or the EXITS too narrow: no search is needed. */
        private int fewestThinkable() {
            if (width <= 0) {
                return MOST_MINUTES + 1;
            }
            int fewest = 1 + (Long.bitCount(waiting) + width - 1) / width;
            for (int spot = 0; spot < SPOTS; spot++) {
                if ((waiting & spotBit(spot)) != 0) {
                    fewest = Math.max(fewest, distance[spot] + 1);
                }
            }
            return fewest;
        }

        private void gather(int act, int widerExit) {
            Hall hall = acts.hall;
            for (int spot = 0; spot < SPOTS; spot++) {
                wide[spot] = 0;
                distance[spot] = acts.stepsOut(spot, act) - 1;
                lookRound(spot);
            }
            width = 0;
            waiting = hall.sitters;
            for (int exit = 0; exit < hall.exits && exit < MOST_EXITS; exit++) {
                if (acts.isGoodExit(exit, act)) {
                    int spot = hall.spotBy(acts.placeOf(exit, act));
                    int more = hall.wide[exit] + (exit == widerExit ? 1 : 0);
                    wide[spot] += more;
                    width += more;
                    waiting &= ~spotBit(spot);
                }
            }
            gone = Long.bitCount(hall.sitters & ~waiting);
            for (int cell = 0; cell < CELLS; cell++) {
                goesTo[cell] = FREE;
                comesFrom[cell] = FREE;
                ended[cell] = 0;
            }
        }

        private void lookRound(int spot) {
            int row = spot / SIDE;
            int seat = spot % SIDE;
            int first = WAYS * spot;
            beside[first] = spotOrNone(row, seat);
            beside[first + 1] = spotOrNone(row - 1, seat);
            beside[first + 2] = spotOrNone(row + 1, seat);
            beside[first + 3] = spotOrNone(row, seat - 1);
            beside[first + 4] = spotOrNone(row, seat + 1);
        }

        private int spotOrNone(int row, int seat) {
            return acts.hall.hasSeat(row, seat) ? spotOf(row, seat) : NONE;
        }

        private void sendAll(int n) {
            minutes = Math.min(n, MOST_MINUTES);
            for (int path = 0; path < SPOTS && width > 0 && waiting != 0; path++) {
                if (!sendOne()) {
                    return;
                }
                gone++;
            }
        }

        private boolean sendOne() {
            for (int side = 0; side < 2 * MOST_MINUTES; side++) {
                reached[side] = 0;
            }
            stacked = 0;
            for (int spot = 0; spot < SPOTS; spot++) {
                if ((waiting & spotBit(spot)) != 0 && canStillEnd(0, spot)) {
                    reach(2 * spot, NONE);
                }
            }
            for (int step = 0; step < 2 * CELLS && stacked > 0; step++) {
                stacked--;
                int node = stack[stacked];
                int cell = node / 2;
                int end = NONE;
                if (node % 2 == 0) {
                    comeIn(cell);
                } else {
                    end = goOut(cell);
                }
                if (end != NONE) {
                    ended[end]++;
                    goesTo[cell] = end % SPOTS;
                    turnPaths(node);
                    return true;
                }
            }
            return false;
        }

        private boolean canStillEnd(int minute, int spot) {
            return minute + distance[spot] < minutes;
        }

        private void reach(int node, int from) {
            if (node < 0 || node >= 2 * CELLS || stacked >= 2 * CELLS) {
                return;
            }
            int side = node / 2 / SPOTS * 2 + node % 2;
            long here = spotBit(node / 2 % SPOTS);
            if ((reached[side] & here) == 0) {
                reached[side] |= here;
                parent[node] = from;
                stack[stacked] = node;
                stacked++;
            }
        }

        private void comeIn(int cell) {
            int node = 2 * cell;
            int spot = cell % SPOTS;
            int before = cell - spot - SPOTS;
            if (wide[spot] > 0) {
                turnAsideFromExit(cell, before);
            } else if (comesFrom[cell] == FREE) {
                reach(node + 1, node);
            } else if (comesFrom[cell] >= 0 && before >= 0) {
                reach(2 * (before + comesFrom[cell]) + 1, node);
            }
        }

        /** By a full EXIT: any of those that end there may go another way. */
        private void turnAsideFromExit(int cell, int before) {
            int spot = cell % SPOTS;
            for (int way = 0; way < WAYS && before >= 0; way++) {
                int other = beside[WAYS * spot + way];
                if (other != NONE && goesTo[before + other] == spot) {
                    reach(2 * (before + other) + 1, 2 * cell);
                }
            }
        }

        /** The cell by an EXIT at which the new path ends, NONE while it does not. */
        private int goOut(int cell) {
            int node = 2 * cell + 1;
            int spot = cell % SPOTS;
            int after = cell - spot + SPOTS;
            int minute = after / SPOTS;
            if (goesTo[cell] != FREE && comesFrom[cell] >= 0) {
                reach(2 * cell, node);
            }
            for (int way = 0; way < WAYS && minute < minutes; way++) {
                int other = beside[WAYS * spot + way];
                if (other != NONE && canStillEnd(minute, other) && goesTo[cell] != other) {
                    if (ended[after + other] < wide[other]) {
                        return after + other;
                    }
                    reach(2 * (after + other), node);
                }
            }
            return NONE;
        }

        private void turnPaths(int last) {
            int node = last;
            for (int step = 0; step < 2 * CELLS && parent[node] != NONE; step++) {
                int from = parent[node];
                int cell = from / 2;
                if (from % 2 == 1 && from == node + 1) {
                    goesTo[cell] = FREE;
                    comesFrom[cell] = FREE;
                } else if (from % 2 == 1) {
                    goesTo[cell] = node / 2 % SPOTS;
                    comesFrom[node / 2] = cell % SPOTS;
                }
                node = from;
            }
            comesFrom[node / 2] = START;
            waiting &= ~spotBit(node / 2);
        }
    }

    /** A CROWD that a seed draws: how many come to each BEHIND, by how many steps. */
    private static final class Crowd {
        private static final long FACTOR = 1103515245L;
        private static final long ADDED = 12345L;
        private static final long MODULUS = 2147483648L;

        final int[] comers = new int[BEHINDS];
        int steps;
        private final Acts acts;

        Crowd(Acts played) {
            acts = played;
        }

        void draw(long seed, int act) {
            for (int behind = 0; behind < BEHINDS; behind++) {
                comers[behind] = 0;
            }
            steps = 0;
            long x = seed;
            for (int spot = 0; spot < SPOTS && acts.hall.exits > 0; spot++) {
                if (acts.hall.isTaken(spot)) {
                    x = (FACTOR * x + ADDED) % MODULUS;
                    goesOut(spot, (int) (x / 65536 % acts.hall.exits), act);
                }
            }
        }

        private void goesOut(int spot, int exit, int act) {
            int behind = acts.behindOf(exit, act);
            if (isBehind(behind)) {
                comers[behind]++;
            }
            steps += acts.hall.stepsBy(spot, acts.placeOf(exit, act));
        }

        boolean isLucky() {
            return comers[1] + comers[2] + comers[3] == 0;
        }
    }

    /** A row of numbers, or nothing. */
    private static final class Slot {
        final long[] numbers = new long[MOST_NUMBERS];
        int width;
        int length = NONE;

        boolean hasRow() {
            return length != NONE;
        }

        void lay(int newWidth, int n) {
            width = newWidth;
            length = n;
            for (int i = 0; i < MOST_NUMBERS; i++) {
                numbers[i] = 0;
            }
        }

        void put(int i, long v) {
            if (i >= 0 && i < length && i < MOST_NUMBERS) {
                numbers[i] = cut(v);
            }
        }

        private long cut(long v) {
            switch (width) {
                case 0:
                    return (byte) v;
                case 1:
                    return (short) v;
                case 2:
                    return (int) v;
                default:
                    return v;
            }
        }

        boolean hasRange(int from, int n) {
            return from >= 0 && n >= 0 && n <= length && from <= length - n;
        }

        /** A number that could be an EXIT, a PLACE, a ROW, a SEAT or a BEHIND; NONE for any other. */
        int small(int i) {
            if (i < 0 || i >= length || i >= MOST_NUMBERS || numbers[i] < 0 || numbers[i] > MOST_NUMBERS) {
                return NONE;
            }
            return (int) numbers[i];
        }
    }
}
