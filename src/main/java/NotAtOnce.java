import java.util.NoSuchElementException;

/**
 * Answers to looks that can't all be made at once: a BOOK of sets, lines, rays and runs, and what
 * could be hidden behind what they told. Every row is made once, in a constructor, and used again.
 */
public final class NotAtOnce {
    public static final int NONE = -1;

    /** An answer that isn't a refusal: there is no such thing, or it isn't settled. */
    private static final int NOT_SO = -2;
    /** The refusal of calls whose answers may be small numbers below 0. */
    private static final int OFF_SCALE = -1000;

    private static final int TAPE_ROOM = 900;
    private static final int FEED_BYTES = 20;
    private static final int LAW_MOST = 60;
    private static final int COINS_MOST = 99;
    private static final int LOOKS = 6;
    private static final int POINTS = 9;
    private static final int SETS = 8;
    private static final int LINES = 8;
    private static final int RAYS = 18;
    private static final int RUNS = 4;
    private static final int STEPS = 6;
    private static final int STATES = 3;

    private static final int NO_SUCH = 1;
    private static final int NUMBER = 2;
    private static final int NO_ROOM = 3;
    private static final int FAULTY = 4;
    private static final int UNTRUE = 5;
    private static final int EMPTY = 6;

    private final int[] tape;
    private final Reader reader;
    private final Table table;
    private final Rings rings;
    private final Blend blend;
    private final Parities parities;
    private final Frames frames;
    private final Telling telling;
    private final History history;
    private final Fraction fraction;
    private int fed;
    private int refusal;
    private int lastFault;
    private int faultPlace;

    public NotAtOnce() {
        tape = new int[TAPE_ROOM];
        reader = new Reader(tape);
        table = new Table();
        rings = new Rings(table);
        fraction = new Fraction();
        blend = new Blend(table, fraction);
        parities = new Parities();
        frames = new Frames();
        telling = new Telling();
        history = new History(table);
    }

    // ---- the book

    public int feed(int a, int b, int c, int d, int e) {
        if (fed + FEED_BYTES > TAPE_ROOM) {
            return NONE;
        }
        put(a);
        put(b);
        put(c);
        put(d);
        put(e);
        return fed;
    }

    public int book(int n) {
        if (n < 0 || n > fed) {
            return refused(NUMBER);
        }
        fed = 0;
        reader.read(n);
        lastFault = reader.fault;
        if (lastFault != 0) {
            faultPlace = reader.place;
            return refused(FAULTY);
        }
        table.open(reader.draft);
        parities.open(reader.draft);
        frames.open(reader.draft);
        telling.open(reader.draft);
        history.open();
        return told(table.looks);
    }

    public int fault() {
        return lastFault;
    }

    public int where() {
        return refusal == FAULTY ? faultPlace : NONE;
    }

    // ---- what is hidden

    public int share(boolean lower) {
        if (noBook()) {
            return refused(NO_SUCH);
        }
        blend.findShare();
        return told(fraction.part(lower));
    }

    public int together(int i, int u, int j, int v, boolean most, boolean lower) {
        if (!table.hasLook(i) || !table.hasLook(j) || i == j || !isBit(u) || !isBit(v)) {
            return refused(NO_SUCH);
        }
        if (!blend.isMixed()) {
            return refused(EMPTY);
        }
        blend.findTogether(1 << i | 1 << j, u << i | v << j, most);
        return told(fraction.part(lower));
    }

    public int extend(int set, int outcome) {
        if (!table.hasOutcome(set, outcome)) {
            return refused(NO_SUCH);
        }
        return told(table.extending() >>> (4 * set + outcome) & 1);
    }

    public int level() {
        if (noBook()) {
            return refused(NO_SUCH);
        }
        if (blend.isMixed()) {
            return told(0);
        }
        int possible = table.possible();
        int extending = possible & table.extending();
        if (extending == possible) {
            return told(1);
        }
        return told(extending != 0 ? 2 : 3);
    }

    public int hidden() {
        if (noBook()) {
            return refused(NO_SUCH);
        }
        return told(table.fitting());
    }

    public int answer(int i) {
        int found = noBook() ? NONE : table.fittingAt(i);
        return found < 0 ? refused(NO_SUCH) : told(found);
    }

    public int disturbed() {
        if (noBook()) {
            return refused(NO_SUCH);
        }
        return told(table.firstDisturbed());
    }

    public int same(int set) {
        if (!table.hasPair(set)) {
            refusal = NO_SUCH;
            return OFF_SCALE;
        }
        return told(table.alike(set));
    }

    public int cycles() {
        if (noBook()) {
            return refused(NO_SUCH);
        }
        return told(rings.number());
    }

    public int cycle(int i) {
        int found = noBook() ? NONE : rings.ringAt(i);
        return found < 0 ? refused(NO_SUCH) : told(found);
    }

    public int excess(int cycle) {
        if (noBook()) {
            refusal = NO_SUCH;
            return OFF_SCALE;
        }
        if (!rings.isRing(cycle)) {
            refusal = UNTRUE;
            return OFF_SCALE;
        }
        return told(rings.surplus(cycle));
    }

    public int widest() {
        if (noBook()) {
            return refused(NO_SUCH);
        }
        return told(rings.greatest());
    }

    // ---- bets

    public boolean stake(int set, int outcome, int coins) {
        if (!table.hasOutcome(set, outcome)) {
            return denied(NO_SUCH);
        }
        if (coins < 0 || coins > COINS_MOST) {
            return denied(NUMBER);
        }
        table.coins[4 * set + outcome] = coins;
        return done();
    }

    public int wins() {
        if (noBook()) {
            return refused(NO_SUCH);
        }
        return told(table.winnings());
    }

    public int worst() {
        if (noBook()) {
            return refused(NO_SUCH);
        }
        return told(table.pay(table.leastPaid()));
    }

    public int worstAt() {
        if (noBook()) {
            return refused(NO_SUCH);
        }
        return told(table.leastPaid());
    }

    public int bars() {
        if (noBook()) {
            return refused(NO_SUCH);
        }
        return told(table.winnings() < table.pay(table.leastPaid()) * table.law ? 1 : 0);
    }

    public int fair(boolean lower) {
        if (noBook()) {
            return refused(NO_SUCH);
        }
        int wins = table.winnings();
        int sure = table.pay(table.leastPaid()) * table.law;
        if (sure == 0 || wins > sure) {
            fraction.set(1, 1);
        } else {
            fraction.set(wins, sure);
        }
        return told(fraction.part(lower));
    }

    // ---- lines

    public int ways() {
        if (noBook()) {
            return refused(NO_SUCH);
        }
        return told(parities.ways);
    }

    public int forced(int point) {
        if (point < 0 || point >= parities.points) {
            return refused(NO_SUCH);
        }
        if (parities.ways == 0) {
            return refused(EMPTY);
        }
        return told(parities.valueOf(point));
    }

    public int core() {
        if (noBook()) {
            return refused(NO_SUCH);
        }
        return told(parities.leastBroken());
    }

    public int can(int lines) {
        if (noBook()) {
            return refused(NO_SUCH);
        }
        if (lines < 0 || lines >= 1 << parities.lines) {
            return refused(NUMBER);
        }
        return told(parities.holds(lines) ? 1 : 0);
    }

    public int game() {
        if (noBook()) {
            return refused(NO_SUCH);
        }
        return told(parities.mostHeld());
    }

    // ---- rays

    public int square(int ray, int other) {
        if (!frames.hasRay(ray) || !frames.hasRay(other) || ray == other) {
            return refused(NO_SUCH);
        }
        return told(frames.meets[ray] >> other & 1);
    }

    public int corners() {
        if (noBook()) {
            return refused(NO_SUCH);
        }
        return told(frames.corners);
    }

    public int colours() {
        if (noBook()) {
            return refused(NO_SUCH);
        }
        frames.work();
        return told(frames.colourings);
    }

    public int ones() {
        if (noBook()) {
            return refused(NO_SUCH);
        }
        frames.work();
        return frames.colourings == 0 ? refused(EMPTY) : told(frames.mostOnes);
    }

    public int spare() {
        if (noBook()) {
            return refused(NO_SUCH);
        }
        frames.work();
        return told(frames.spares);
    }

    public int critical() {
        if (noBook()) {
            return refused(NO_SUCH);
        }
        frames.work();
        return frames.colourings != 0 ? refused(EMPTY) : told(frames.staying);
    }

    // ---- runs

    public int memory() {
        if (noBook()) {
            return refused(NO_SUCH);
        }
        telling.work();
        return told(telling.states == 0 ? NOT_SO : telling.states);
    }

    public int machine(int state, int look, boolean next) {
        if (state < 0 || state >= STATES || !table.hasLook(look)) {
            return refused(NO_SUCH);
        }
        telling.work();
        if (telling.states == 0) {
            return refused(EMPTY);
        }
        return told(telling.entry(state, look, next));
    }

    // ---- acts

    public boolean flip(int look) {
        if (!table.hasLook(look)) {
            return denied(NO_SUCH);
        }
        history.begin(History.FLIP, look);
        table.turn(look);
        return done();
    }

    public boolean drop(int set) {
        if (!table.hasSet(set)) {
            return denied(NO_SUCH);
        }
        history.begin(History.DROP, set);
        table.remove(set);
        return done();
    }

    public boolean forget(int look) {
        if (!table.hasLook(look)) {
            return denied(NO_SUCH);
        }
        if (!table.isLookedAt(look)) {
            return denied(UNTRUE);
        }
        history.begin(History.FORGET, look);
        table.merge(look);
        return done();
    }

    public boolean shift(int set, int from, int to, int n) {
        if (!table.hasOutcome(set, from) || !table.hasOutcome(set, to) || from == to) {
            return denied(NO_SUCH);
        }
        if (n < 1 || n > LAW_MOST) {
            return denied(NUMBER);
        }
        if (table.times[4 * set + from] < n) {
            return denied(UNTRUE);
        }
        history.begin(History.SHIFT, set);
        history.tellMove(from, to, n);
        table.move(4 * set + from, 4 * set + to, n);
        return done();
    }

    public boolean undo() {
        return history.takeBack() ? done() : denied(EMPTY);
    }

    public boolean redo() {
        return history.makeAgain() ? done() : denied(EMPTY);
    }

    public int mark() {
        if (noBook()) {
            return refused(NO_SUCH);
        }
        if (history.marks >= History.MARKS) {
            return refused(NO_ROOM);
        }
        return told(history.keep());
    }

    public boolean back(int mark) {
        return history.goBack(mark) ? done() : denied(NO_SUCH);
    }

    public int act(int i, int what) {
        if (i < 0 || i >= history.made || what < 0 || what >= History.PARTS) {
            return refused(NO_SUCH);
        }
        return told(history.acts[i][what]);
    }

    // ---- what is seen

    public int times(int set, int outcome) {
        if (!table.hasOutcome(set, outcome)) {
            return refused(NO_SUCH);
        }
        return told(table.times[4 * set + outcome]);
    }

    public int look(int set, boolean second) {
        if (!table.hasSet(set)) {
            return refused(NO_SUCH);
        }
        return told(second ? table.second[set] : table.first[set]);
    }

    public int coins(int set, int outcome) {
        if (!table.hasOutcome(set, outcome)) {
            return refused(NO_SUCH);
        }
        return told(table.coins[4 * set + outcome]);
    }

    public int led(int i) throws NoSuchElementException {
        int left = table.possible() & ~table.extending();
        if (i < 0 || i >= Integer.bitCount(left)) {
            throw new NoSuchElementException("no such outcome");
        }
        return bitAt(left, i);
    }

    public int size(int what) {
        switch (what) {
            case 0: return table.looks;
            case 1: return parities.points;
            case 2: return table.count;
            case 3: return parities.lines;
            case 4: return frames.rays;
            case 5: return telling.runs;
            case 6: return table.law;
            case 7: return history.made;
            case 8: return history.known - history.made;
            case 9: return history.marks;
            case 10: return fed;
            default: return NONE;
        }
    }

    public int trouble() {
        return refusal;
    }

    // ---- helpers of the calls

    private void put(int number) {
        for (int down = 24; down >= 0; down -= 8) {
            tape[fed] = number >>> down & 255;
            fed++;
        }
    }

    private boolean noBook() {
        return table.law == 0;
    }

    private int told(int value) {
        refusal = 0;
        return value;
    }

    private int refused(int number) {
        refusal = number;
        return NONE;
    }

    private boolean done() {
        refusal = 0;
        return true;
    }

    private boolean denied(int number) {
        refusal = number;
        return false;
    }

    private static boolean isBit(int value) {
        return value == 0 || value == 1;
    }

    /** The place of the i-th bit that is set; NONE if there are fewer. */
    private static int bitAt(int bits, int i) {
        int before = 0;
        for (int place = 0; place < 32; place++) {
            if ((bits >>> place & 1) != 0) {
                if (before == i) {
                    return place;
                }
                before++;
            }
        }
        return NONE;
    }

    /** What a text told, before it is known to be a BOOK: the BOOK in use stays until then. */
    private static final class Draft {
        int law;
        int looks;
        int points;
        int sets;
        int lines;
        int rays;
        int runs;
        final int[] first = new int[SETS];
        final int[] second = new int[SETS];
        final int[] times = new int[4 * SETS];
        final int[] lineBits = new int[LINES];
        final int[] lineSum = new int[LINES];
        final int[] rayParts = new int[4 * RAYS];
        final int[] runLength = new int[RUNS];
        final int[] stepLook = new int[RUNS * STEPS];
        final int[] stepTold = new int[RUNS * STEPS];

        void clear() {
            law = 0;
            looks = 0;
            points = 0;
            sets = 0;
            lines = 0;
            rays = 0;
            runs = 0;
            for (int i = 0; i < times.length; i++) {
                times[i] = 0;
            }
        }
    }

    /**
     * Reads THE TEXT token by token into a draft. Each check is made at the token at which its
     * FAULT stands, and those of one token by their numbers, so the first that fails is the one due.
     */
    private static final class Reader {
        static final int FORM = 1;
        static final int UNKNOWN = 2;
        static final int AGAIN = 3;
        static final int BOUNDS = 4;
        static final int MANY = 5;
        static final int LACKS = 6;

        // the kinds of tokens; a single sign is of the kind that its byte is
        static final int END = 0;
        static final int BAD = 1;
        static final int WORD = 2;
        static final int WHOLE = 3;
        static final int BLANK = 32;
        static final int COMMA = 44;
        static final int MINUS = 45;
        static final int SEMICOLON = 59;

        static final int WORD_MOST = 8;
        static final int WHOLE_MOST = 3;

        final Draft draft = new Draft();
        int fault;
        int place;
        private final int[] bytes;
        private final long[] lookNames = new long[LOOKS];
        private final long[] pointNames = new long[POINTS];
        private int end;
        private int at;
        private int kind;
        private int start;
        private long word;
        private int value;

        Reader(int[] tape) {
            bytes = tape;
        }

        void read(int n) {
            draft.clear();
            fault = 0;
            place = 0;
            end = Math.min(n, bytes.length);
            at = 0;
            next();
            boolean more = true;
            for (int lines = 0; more && lines <= end; lines++) {
                more = readLine() && goesOn();
            }
        }

        /** Whether another LINE is due; at the end what the BOOK lacks is found out. */
        private boolean goesOn() {
            if (kind == END) {
                if (draft.law == 0 || draft.looks == 0) {
                    refuse(LACKS);
                }
                return false;
            }
            return pass(SEMICOLON);
        }

        private boolean readLine() {
            if (says("law")) {
                return readLaw();
            }
            if (says("look")) {
                return readNames(lookNames, true);
            }
            if (says("point")) {
                return readNames(pointNames, false);
            }
            if (says("set")) {
                return readSet();
            }
            if (says("line")) {
                return readParity();
            }
            if (says("ray")) {
                return readRay();
            }
            if (says("run")) {
                return readRun();
            }
            return refuse(FORM);
        }

        private boolean readLaw() {
            if (draft.law != 0) {
                return refuse(AGAIN);
            }
            next();
            if (!passWord("of") || !needWhole(1, LAW_MOST)) {
                return false;
            }
            draft.law = value;
            next();
            return true;
        }

        private boolean readNames(long[] names, boolean ofLooks) {
            for (int i = 0; i <= names.length; i++) {
                next();
                if (!needNewName()) {
                    return false;
                }
                int count = ofLooks ? draft.looks : draft.points;
                if (count >= names.length) {
                    return refuse(MANY);
                }
                names[count] = word;
                if (ofLooks) {
                    draft.looks++;
                } else {
                    draft.points++;
                }
                next();
                if (kind != COMMA) {
                    return true;
                }
            }
            return refuse(MANY);
        }

        private boolean readSet() {
            if (draft.law == 0) {
                return refuse(LACKS);
            }
            if (draft.sets >= SETS) {
                return refuse(MANY);
            }
            next();
            int one = nameAmong(lookNames, draft.looks);
            if (one < 0) {
                return false;
            }
            next();
            int two = NOT_SO;
            if (kind == COMMA) {
                next();
                two = nameAmong(lookNames, draft.looks);
                if (two < 0) {
                    return false;
                }
                if (two == one) {
                    return refuse(AGAIN);
                }
                next();
            }
            draft.first[draft.sets] = one;
            draft.second[draft.sets] = two;
            return passWord("tells") && readTimes(two < 0 ? 2 : 4);
        }

        private boolean readTimes(int outcomes) {
            int sum = 0;
            for (int outcome = 0; outcome < outcomes; outcome++) {
                if (outcome > 0 && !pass(COMMA)) {
                    return false;
                }
                if (!needWhole(0, LAW_MOST)) {
                    return false;
                }
                sum += value;
                if (outcome == outcomes - 1 && sum != draft.law) {
                    return refuse(BOUNDS);
                }
                draft.times[4 * draft.sets + outcome] = value;
                next();
            }
            draft.sets++;
            return true;
        }

        private boolean readParity() {
            if (draft.lines >= LINES) {
                return refuse(MANY);
            }
            next();
            int bits = 0;
            for (int i = 0; i < 3; i++) {
                if (i > 0 && !pass(COMMA)) {
                    return false;
                }
                int point = nameAmong(pointNames, draft.points);
                if (point < 0) {
                    return false;
                }
                if ((bits >> point & 1) != 0) {
                    return refuse(AGAIN);
                }
                bits |= 1 << point;
                next();
            }
            if (!passWord("is")) {
                return false;
            }
            if (!says("even") && !says("odd")) {
                return refuse(FORM);
            }
            draft.lineBits[draft.lines] = bits;
            draft.lineSum[draft.lines] = says("odd") ? 1 : 0;
            draft.lines++;
            next();
            return true;
        }

        private boolean readRay() {
            if (draft.rays >= RAYS) {
                return refuse(MANY);
            }
            next();
            int any = 0;
            for (int i = 0; i < 4; i++) {
                if (i > 0 && !pass(COMMA)) {
                    return false;
                }
                boolean minus = kind == MINUS;
                if (minus) {
                    next();
                }
                if (!needWhole(0, 3)) {
                    return false;
                }
                any |= value;
                if (i == 3 && any == 0) {
                    return refuse(BOUNDS);
                }
                draft.rayParts[4 * draft.rays + i] = minus ? -value : value;
                next();
            }
            draft.rays++;
            return true;
        }

        private boolean readRun() {
            if (draft.runs >= RUNS) {
                return refuse(MANY);
            }
            for (int step = 0; step <= STEPS; step++) {
                next();
                int look = nameAmong(lookNames, draft.looks);
                if (look < 0) {
                    return false;
                }
                if (step >= STEPS) {
                    return refuse(MANY);
                }
                next();
                if (!needWhole(0, 1)) {
                    return false;
                }
                draft.stepLook[STEPS * draft.runs + step] = look;
                draft.stepTold[STEPS * draft.runs + step] = value;
                draft.runLength[draft.runs] = step + 1;
                next();
                if (kind != COMMA) {
                    draft.runs++;
                    return true;
                }
            }
            return refuse(MANY);
        }

        private boolean refuse(int number) {
            fault = number;
            place = start;
            return false;
        }

        private boolean pass(int sign) {
            if (kind != sign) {
                return refuse(FORM);
            }
            next();
            return true;
        }

        private boolean passWord(String text) {
            if (!says(text)) {
                return refuse(FORM);
            }
            next();
            return true;
        }

        private boolean needWhole(int least, int most) {
            if (kind != WHOLE) {
                return refuse(FORM);
            }
            return value >= least && value <= most || refuse(BOUNDS);
        }

        private boolean needNewName() {
            if (!isName()) {
                return refuse(FORM);
            }
            boolean again = indexOf(lookNames, draft.looks) >= 0 || indexOf(pointNames, draft.points) >= 0;
            return !again || refuse(AGAIN);
        }

        /** The number of the NAME that stands here, of its sort; below 0 behind a FAULT. */
        private int nameAmong(long[] names, int count) {
            if (!isName()) {
                refuse(FORM);
                return NONE;
            }
            int found = indexOf(names, count);
            if (found < 0) {
                refuse(UNKNOWN);
            }
            return found;
        }

        private int indexOf(long[] names, int count) {
            for (int i = 0; i < count && i < names.length; i++) {
                if (names[i] == word) {
                    return i;
                }
            }
            return NONE;
        }

        private boolean isName() {
            return kind == WORD && !says("law") && !says("look") && !says("point") && !says("set")
                && !says("line") && !says("ray") && !says("run");
        }

        private boolean says(String text) {
            if (kind != WORD || at - start != text.length()) {
                return false;
            }
            for (int i = 0; i < text.length(); i++) {
                if (bytes[start + i] != text.charAt(i)) {
                    return false;
                }
            }
            return true;
        }

        private void next() {
            while (at < end && bytes[at] == BLANK) {
                at++;
            }
            start = at;
            word = 0;
            value = 0;
            // five bits a letter: words of up to 8 letters are alike if their numbers are
            while (at < end && isLetter(bytes[at])) {
                word = word << 5 | bytes[at] - 'a' + 1;
                at++;
            }
            if (at > start) {
                kind = at - start <= WORD_MOST ? WORD : BAD;
                return;
            }
            while (at < end && isDigit(bytes[at])) {
                value = 10 * value + bytes[at] - '0';
                at++;
            }
            if (at > start) {
                kind = at - start <= WHOLE_MOST ? WHOLE : BAD;
                return;
            }
            takeSign();
        }

        private void takeSign() {
            kind = END;
            if (at < end) {
                int sign = bytes[at];
                kind = sign == SEMICOLON || sign == COMMA || sign == MINUS ? sign : BAD;
                at++;
            }
        }

        private static boolean isLetter(int sign) {
            return sign >= 'a' && sign <= 'z';
        }

        private static boolean isDigit(int sign) {
            return sign >= '0' && sign <= '9';
        }
    }

    /** A fraction in lowest terms. */
    private static final class Fraction {
        private long upper;
        private long lower = 1;

        void set(long over, long under) {
            long common = commonPart(over, under);
            upper = common == 0 ? over : over / common;
            lower = common == 0 ? under : under / common;
        }

        int part(boolean below) {
            return (int) (below ? lower : upper);
        }

        private static long commonPart(long one, long other) {
            long a = one;
            long b = other;
            // each two rounds at least halve them, so that 128 rounds do for any long
            for (int round = 0; round < 128 && b != 0; round++) {
                long rest = a % b;
                a = b;
                b = rest;
            }
            return a;
        }
    }

    /** THE TABLE and the BET on it; of set s OUTCOME o stands at 4 s + o. */
    private static final class Table {
        static final int ROW = 1 + 6 * SETS;

        int law;
        int looks;
        int count;
        /** Another number behind each change of sets or of how often OUTCOMES came. */
        int version;
        final int[] first = new int[SETS];
        final int[] second = new int[SETS];
        final int[] times = new int[4 * SETS];
        final int[] coins = new int[4 * SETS];

        void open(Draft draft) {
            law = draft.law;
            looks = draft.looks;
            count = draft.sets;
            System.arraycopy(draft.first, 0, first, 0, SETS);
            System.arraycopy(draft.second, 0, second, 0, SETS);
            System.arraycopy(draft.times, 0, times, 0, 4 * SETS);
            clearCoins();
            version++;
        }

        void save(int[] row) {
            row[0] = count;
            System.arraycopy(first, 0, row, 1, SETS);
            System.arraycopy(second, 0, row, 1 + SETS, SETS);
            System.arraycopy(times, 0, row, 1 + 2 * SETS, 4 * SETS);
        }

        /** As it was saved; the coins are gone, whatever set they were on. */
        void restore(int[] row) {
            count = row[0];
            System.arraycopy(row, 1, first, 0, SETS);
            System.arraycopy(row, 1 + SETS, second, 0, SETS);
            System.arraycopy(row, 1 + 2 * SETS, times, 0, 4 * SETS);
            clearCoins();
            version++;
        }

        private void clearCoins() {
            for (int i = 0; i < coins.length; i++) {
                coins[i] = 0;
            }
        }

        boolean hasLook(int look) {
            return look >= 0 && look < looks;
        }

        boolean hasSet(int set) {
            return set >= 0 && set < count;
        }

        boolean hasPair(int set) {
            return hasSet(set) && second[set] >= 0;
        }

        boolean hasOutcome(int set, int outcome) {
            return hasSet(set) && outcome >= 0 && outcome < outcomes(set);
        }

        int outcomes(int set) {
            return second[set] < 0 ? 2 : 4;
        }

        int hiddenAnswers() {
            return 1 << looks;
        }

        /** Where the OUTCOME stands that a HIDDEN answer FITS in a set. */
        int cellOf(int set, int answers) {
            int one = answers >> first[set] & 1;
            if (second[set] < 0) {
                return 4 * set + one;
            }
            return 4 * set + 2 * one + (answers >> second[set] & 1);
        }

        /** The sets, as bits, of which a HIDDEN answer FITS no POSSIBLE OUTCOME. */
        int missed(int answers) {
            int bits = 0;
            for (int set = 0; set < count; set++) {
                if (times[cellOf(set, answers)] == 0) {
                    bits |= 1 << set;
                }
            }
            return bits;
        }

        int fitting() {
            int found = 0;
            for (int answers = 0; answers < hiddenAnswers(); answers++) {
                if (missed(answers) == 0) {
                    found++;
                }
            }
            return found;
        }

        int fittingAt(int i) {
            int before = 0;
            for (int answers = 0; answers < hiddenAnswers(); answers++) {
                if (missed(answers) == 0) {
                    if (before == i) {
                        return answers;
                    }
                    before++;
                }
            }
            return NONE;
        }

        /** The POSSIBLE OUTCOMES, as bits by where they stand. */
        int possible() {
            int bits = 0;
            for (int cell = 0; cell < 4 * count; cell++) {
                if (times[cell] > 0) {
                    bits |= 1 << cell;
                }
            }
            return bits;
        }

        /** The OUTCOMES, POSSIBLE or not, that EXTEND, as bits by where they stand. */
        int extending() {
            int bits = 0;
            for (int answers = 0; answers < hiddenAnswers(); answers++) {
                int missed = missed(answers);
                for (int set = 0; set < count; set++) {
                    if ((missed & ~(1 << set)) == 0) {
                        bits |= 1 << cellOf(set, answers);
                    }
                }
            }
            return bits;
        }

        int firstDisturbed() {
            for (int look = 0; look < looks; look++) {
                int often = NONE;
                for (int set = 0; set < count; set++) {
                    int now = onesOf(set, look);
                    if (now >= 0 && often >= 0 && now != often) {
                        return look;
                    }
                    often = now >= 0 ? now : often;
                }
            }
            return NOT_SO;
        }

        /** How often a look was 1 in a set; NONE if it isn't in it. */
        private int onesOf(int set, int look) {
            int cell = 4 * set;
            if (second[set] < 0) {
                return first[set] == look ? times[cell + 1] : NONE;
            }
            if (first[set] == look) {
                return times[cell + 2] + times[cell + 3];
            }
            return second[set] == look ? times[cell + 1] + times[cell + 3] : NONE;
        }

        int alike(int set) {
            int cell = 4 * set;
            return times[cell] + times[cell + 3] - times[cell + 1] - times[cell + 2];
        }

        int winnings() {
            int sum = 0;
            for (int cell = 0; cell < 4 * count; cell++) {
                sum += coins[cell] * times[cell];
            }
            return sum;
        }

        int pay(int answers) {
            int sum = 0;
            for (int set = 0; set < count; set++) {
                sum += coins[cellOf(set, answers)];
            }
            return sum;
        }

        /** The first HIDDEN answer by which the BET pays least. */
        int leastPaid() {
            int least = 0;
            for (int answers = 1; answers < hiddenAnswers(); answers++) {
                if (pay(answers) < pay(least)) {
                    least = answers;
                }
            }
            return least;
        }

        boolean isLookedAt(int look) {
            for (int set = 0; set < count; set++) {
                if (first[set] == look || second[set] == look) {
                    return true;
                }
            }
            return false;
        }

        void turn(int look) {
            for (int set = 0; set < count; set++) {
                int cell = 4 * set;
                if (second[set] < 0) {
                    if (first[set] == look) {
                        swap(cell, cell + 1);
                    }
                } else if (first[set] == look) {
                    swap(cell, cell + 2);
                    swap(cell + 1, cell + 3);
                } else if (second[set] == look) {
                    swap(cell, cell + 1);
                    swap(cell + 2, cell + 3);
                }
            }
            version++;
        }

        private void swap(int one, int other) {
            int often = times[one];
            times[one] = times[other];
            times[other] = often;
            int staked = coins[one];
            coins[one] = coins[other];
            coins[other] = staked;
        }

        void remove(int set) {
            for (int to = set; to < count - 1; to++) {
                first[to] = first[to + 1];
                second[to] = second[to + 1];
                for (int outcome = 0; outcome < 4; outcome++) {
                    times[4 * to + outcome] = times[4 * to + 4 + outcome];
                    coins[4 * to + outcome] = coins[4 * to + 4 + outcome];
                }
            }
            count--;
            version++;
        }

        void merge(int look) {
            // from the last one down, as those behind a removed set move up
            for (int set = count - 1; set >= 0; set--) {
                if (second[set] < 0) {
                    if (first[set] == look) {
                        remove(set);
                    }
                } else if (first[set] == look) {
                    first[set] = second[set];
                    putTogether(set, 2, 1);
                } else if (second[set] == look) {
                    putTogether(set, 1, 2);
                }
            }
            version++;
        }

        /** Makes a set one of the look that stays, whose answer 1 stands by a stride behind 0. */
        private void putTogether(int set, int forgotten, int stride) {
            int cell = 4 * set;
            int none = times[cell] + times[cell + forgotten];
            int one = times[cell + stride] + times[cell + stride + forgotten];
            second[set] = NOT_SO;
            times[cell] = none;
            times[cell + 1] = one;
            times[cell + 2] = 0;
            times[cell + 3] = 0;
            for (int outcome = 0; outcome < 4; outcome++) {
                coins[cell + outcome] = 0;
            }
        }

        void move(int from, int to, int n) {
            times[from] -= n;
            times[to] += n;
            version++;
        }
    }

    /** CYCLES of sets of THE TABLE. */
    private static final class Rings {
        private final Table table;

        Rings(Table seen) {
            table = seen;
        }

        boolean isRing(int bits) {
            if (bits < 0 || bits >= 1 << table.count || Integer.bitCount(bits) < 3) {
                return false;
            }
            int once = 0;
            int twice = 0;
            int thrice = 0;
            for (int set = 0; set < table.count; set++) {
                if ((bits >> set & 1) != 0) {
                    if (!table.hasPair(set)) {
                        return false;
                    }
                    int looks = looksOf(set);
                    thrice |= twice & looks;
                    twice |= once & looks;
                    once |= looks;
                }
            }
            return thrice == 0 && once == twice && hangsTogether(bits, once);
        }

        private int looksOf(int set) {
            return 1 << table.first[set] | 1 << table.second[set];
        }

        private boolean hangsTogether(int bits, int looks) {
            int reached = looks & -looks;
            for (int round = 0; round < SETS; round++) {
                for (int set = 0; set < table.count; set++) {
                    if ((bits >> set & 1) != 0 && (looksOf(set) & reached) != 0) {
                        reached |= looksOf(set);
                    }
                }
            }
            return reached == looks;
        }

        int number() {
            int found = 0;
            for (int bits = 0; bits < 1 << table.count; bits++) {
                if (isRing(bits)) {
                    found++;
                }
            }
            return found;
        }

        int ringAt(int i) {
            int before = 0;
            for (int bits = 0; bits < 1 << table.count; bits++) {
                if (isRing(bits)) {
                    if (before == i) {
                        return bits;
                    }
                    before++;
                }
            }
            return NONE;
        }

        /** All turned to the better side; if that turns an even number, the least one the other way. */
        int surplus(int ring) {
            int sum = 0;
            int least = LAW_MOST;
            int turned = 0;
            for (int set = 0; set < table.count; set++) {
                if ((ring >> set & 1) != 0) {
                    int alike = table.alike(set);
                    sum += Math.abs(alike);
                    least = Math.min(least, Math.abs(alike));
                    turned += alike < 0 ? 1 : 0;
                }
            }
            int most = turned % 2 == 1 ? sum : sum - 2 * least;
            return most - table.law * (Integer.bitCount(ring) - 2);
        }

        int greatest() {
            int found = NOT_SO;
            for (int bits = 0; bits < 1 << table.count; bits++) {
                if (isRing(bits) && (found < 0 || surplus(bits) > surplus(found))) {
                    found = bits;
                }
            }
            return found;
        }
    }

    /**
     * SHARE and TOGETHER, by the simplex method in whole numbers: every cell is a subdeterminant of
     * rows of 0 and 1, of rank 16 at most, and stands over one common scale, so that no product
     * leaves a long. Only HIDDEN answers that FIT POSSIBLE OUTCOMES alone get a column, the others
     * could be but 0.
     */
    private static final class Blend {
        static final int HIDDEN = 1 << LOOKS;
        static final int ROWS = 4 * SETS;
        static final int SUM = ROWS;
        static final int AIM = ROWS + 1;
        /** Far above the turns that any table needs; Bland's choice of names never comes round. */
        static final int TURNS = 1000000;

        private final Table table;
        private final Fraction fraction;
        private final long[][] cells = new long[ROWS + 2][HIDDEN + 1];
        private final int[] rowNames = new int[ROWS];
        private final int[] columnNames = new int[HIDDEN];
        private int rows;
        private int columns;
        private long scale = 1;
        private int solved;

        Blend(Table seen, Fraction answer) {
            table = seen;
            fraction = answer;
            solved = seen.version - 1;
        }

        void findShare() {
            if (table.count == 0) {
                fraction.set(1, 1);
                return;
            }
            solve();
            fraction.set(cells[SUM][columns], scale * table.law);
        }

        boolean isMixed() {
            if (table.count == 0) {
                return true;
            }
            solve();
            return cells[SUM][columns] == scale * table.law;
        }

        /** How much HIDDEN answers that have the value under the mask are together; if MIXED. */
        void findTogether(int mask, int value, boolean most) {
            if (table.count == 0) {
                fraction.set(most ? 1 : 0, 1);
                return;
            }
            solve();
            int side = most ? 1 : -1;
            aim(mask, value, side);
            climb(AIM);
            fraction.set(side * cells[AIM][columns], scale * table.law);
        }

        private void solve() {
            if (solved == table.version) {
                return;
            }
            solved = table.version;
            nameColumns();
            fillRows();
            for (int column = 0; column < columns; column++) {
                cells[SUM][column] = -1;
            }
            cells[SUM][columns] = 0;
            scale = 1;
            climb(SUM);
        }

        private void nameColumns() {
            columns = 0;
            for (int answers = 0; answers < table.hiddenAnswers(); answers++) {
                if (table.missed(answers) == 0) {
                    columnNames[columns] = answers;
                    columns++;
                }
            }
        }

        private void fillRows() {
            rows = 0;
            for (int cell = 0; cell < 4 * table.count; cell++) {
                if (table.times[cell] > 0) {
                    for (int column = 0; column < columns; column++) {
                        cells[rows][column] = table.cellOf(cell / 4, columnNames[column]) == cell ? 1 : 0;
                    }
                    cells[rows][columns] = table.times[cell];
                    rowNames[rows] = HIDDEN + cell;
                    rows++;
                }
            }
        }

        /** Sets up a new aim's row from the solved ones, so that the climb to it need not begin anew. */
        private void aim(int mask, int value, int side) {
            for (int column = 0; column <= columns; column++) {
                long sum = 0;
                for (int row = 0; row < rows; row++) {
                    if (isMeant(rowNames[row], mask, value)) {
                        sum += cells[row][column];
                    }
                }
                if (column < columns && isMeant(columnNames[column], mask, value)) {
                    sum -= scale;
                }
                cells[AIM][column] = side * sum;
            }
        }

        private static boolean isMeant(int name, int mask, int value) {
            return name < HIDDEN && (name & mask) == value;
        }

        private void climb(int goal) {
            for (int turn = 0; turn < TURNS; turn++) {
                int column = entering(goal);
                if (column < 0) {
                    return;
                }
                int row = leaving(column);
                if (row < 0) {
                    return;
                }
                pivot(row, column, goal);
            }
        }

        /** The column of the least name that betters the goal; behind SUM it must cost SUM nothing. */
        private int entering(int goal) {
            int best = NONE;
            for (int column = 0; column < columns; column++) {
                boolean free = goal == SUM || cells[SUM][column] == 0;
                if (free && cells[goal][column] < 0 && (best < 0 || columnNames[column] < columnNames[best])) {
                    best = column;
                }
            }
            return best;
        }

        private int leaving(int column) {
            int best = NONE;
            for (int row = 0; row < rows; row++) {
                if (cells[row][column] > 0 && (best < 0 || comesFirst(row, best, column))) {
                    best = row;
                }
            }
            return best;
        }

        private boolean comesFirst(int row, int other, int column) {
            long one = cells[row][columns] * cells[other][column];
            long two = cells[other][columns] * cells[row][column];
            return one < two || one == two && rowNames[row] < rowNames[other];
        }

        private void pivot(int row, int column, int goal) {
            long turnedOn = cells[row][column];
            if (turnedOn == 0 || scale == 0) {
                return;
            }
            for (int other = 0; other < rows; other++) {
                if (other != row) {
                    clearFrom(other, row, column);
                }
            }
            clearFrom(SUM, row, column);
            if (goal == AIM) {
                clearFrom(AIM, row, column);
            }
            cells[row][column] = scale;
            scale = turnedOn;
            int name = rowNames[row];
            rowNames[row] = columnNames[column];
            columnNames[column] = name;
        }

        private void clearFrom(int other, int row, int column) {
            long[] changed = cells[other];
            long[] by = cells[row];
            long turnedOn = by[column];
            long there = changed[column];
            if (there == 0 && turnedOn == scale) {
                return;
            }
            for (int i = 0; i <= columns; i++) {
                if (i != column) {
                    changed[i] = (changed[i] * turnedOn - there * by[i]) / scale;
                }
            }
            changed[column] = -there;
        }
    }

    /** LINES of points: which of them, as bits, can be so at once. */
    private static final class Parities {
        int points;
        int lines;
        int ways = 1;
        private int everOne;
        private int everNone;
        private final boolean[] held = new boolean[1 << LINES];

        void open(Draft draft) {
            points = draft.points;
            lines = draft.lines;
            ways = 0;
            everOne = 0;
            everNone = 0;
            int all = (1 << lines) - 1;
            for (int bits = 0; bits <= all; bits++) {
                held[bits] = false;
            }
            for (int values = 0; values < 1 << points; values++) {
                int so = soLines(draft, values);
                held[so] = true;
                if (so == all) {
                    ways++;
                    everOne |= values;
                    everNone |= ~values;
                }
            }
            spread();
        }

        private int soLines(Draft draft, int values) {
            int so = 0;
            for (int line = 0; line < lines; line++) {
                if (Integer.bitCount(values & draft.lineBits[line]) % 2 == draft.lineSum[line]) {
                    so |= 1 << line;
                }
            }
            return so;
        }

        /** What can be so at once can be with any line less, too; the greater bits are settled first. */
        private void spread() {
            for (int bits = (1 << lines) - 1; bits > 0; bits--) {
                for (int line = 0; held[bits] && line < lines; line++) {
                    held[bits & ~(1 << line)] = true;
                }
            }
        }

        boolean holds(int bits) {
            return bits >= 0 && bits < 1 << lines && held[bits];
        }

        int valueOf(int point) {
            boolean one = (everOne >> point & 1) != 0;
            boolean none = (everNone >> point & 1) != 0;
            if (one && none) {
                return NOT_SO;
            }
            return one ? 1 : 0;
        }

        int leastBroken() {
            int found = NOT_SO;
            for (int bits = 0; bits < 1 << lines; bits++) {
                if (!held[bits] && (found < 0 || Integer.bitCount(bits) < Integer.bitCount(found))) {
                    found = bits;
                }
            }
            return found;
        }

        int mostHeld() {
            int most = 0;
            for (int bits = 0; bits < 1 << lines; bits++) {
                if (held[bits]) {
                    most = Math.max(most, Integer.bitCount(bits));
                }
            }
            return most;
        }
    }

    /** RAYS, their CORNERS and COLOURS. */
    private static final class Frames {
        /** No five rays are SQUARE each with each, and so 18 have 5 x 5 x 4 x 4 CORNERS at most. */
        static final int CORNERS_MOST = 400;

        int rays;
        int corners;
        int colourings;
        int mostOnes;
        int spares;
        int staying;
        /** Of each ray those that are SQUARE to it, as bits. */
        final int[] meets = new int[RAYS];
        private final int[] cornerBits = new int[CORNERS_MOST];
        private boolean worked;
        private int present;
        private int found;
        private int most;

        void open(Draft draft) {
            rays = draft.rays;
            worked = false;
            for (int ray = 0; ray < rays; ray++) {
                meets[ray] = 0;
                for (int other = 0; other < rays; other++) {
                    if (other != ray && product(draft.rayParts, ray, other) == 0) {
                        meets[ray] |= 1 << other;
                    }
                }
            }
            findCorners();
        }

        private static int product(int[] parts, int ray, int other) {
            int sum = 0;
            for (int i = 0; i < 4; i++) {
                sum += parts[4 * ray + i] * parts[4 * other + i];
            }
            return sum;
        }

        boolean hasRay(int ray) {
            return ray >= 0 && ray < rays;
        }

        private void findCorners() {
            corners = 0;
            for (int a = 0; a < rays; a++) {
                for (int b = a + 1; b < rays; b++) {
                    if ((meets[a] >> b & 1) != 0) {
                        findCornersOf(a, b);
                    }
                }
            }
        }

        private void findCornersOf(int a, int b) {
            int both = meets[a] & meets[b];
            for (int c = b + 1; c < rays; c++) {
                int all = (both >> c & 1) != 0 ? both & meets[c] : 0;
                for (int d = c + 1; d < rays; d++) {
                    if ((all >> d & 1) != 0 && corners < CORNERS_MOST) {
                        cornerBits[corners] = 1 << a | 1 << b | 1 << c | 1 << d;
                        corners++;
                    }
                }
            }
        }

        /** Finds all that is asked of COLOURS, once for each BOOK. */
        void work() {
            if (worked) {
                return;
            }
            worked = true;
            int all = (1 << rays) - 1;
            colourings = countColours(all);
            mostOnes = most;
            spares = 0;
            staying = all;
            for (int ray = 0; colourings == 0 && ray < rays; ray++) {
                if (countColours(all & ~(1 << ray)) == 0) {
                    spares |= 1 << ray;
                }
                if (countColours(staying & ~(1 << ray)) == 0) {
                    staying &= ~(1 << ray);
                }
            }
        }

        private int countColours(int kept) {
            present = kept;
            found = 0;
            most = 0;
            colour(kept, 0, 0);
            return found;
        }

        /** Goes through the COLOURS in which some rays are 1 and those not open any more else 0. */
        private void colour(int open, int ones, int depth) {
            if (depth > RAYS) {
                return;
            }
            int ray = mostMet(open);
            for (int i = 0; i < corners; i++) {
                int corner = cornerBits[i];
                if ((corner & ~present) == 0 && (corner & ones) == 0) {
                    int left = Integer.bitCount(corner & open);
                    if (left == 0) {
                        return;
                    }
                    if (left == 1) {
                        // the last one of a CORNER without a 1 has to be it
                        int last = corner & open;
                        colour(open & ~last & ~meets[bitAt(last, 0)], ones | last, depth + 1);
                        return;
                    }
                }
            }
            if (ray < 0) {
                int free = Integer.bitCount(open);
                found += 1 << free;
                most = Math.max(most, Integer.bitCount(ones) + free);
                return;
            }
            colour(open & ~(1 << ray) & ~meets[ray], ones | 1 << ray, depth + 1);
            colour(open & ~(1 << ray), ones, depth + 1);
        }

        /** The open ray that is SQUARE to most open ones: it settles most; NONE if none is to any. */
        private int mostMet(int open) {
            int best = NONE;
            int met = 0;
            for (int ray = 0; ray < rays; ray++) {
                if ((open >> ray & 1) != 0 && Integer.bitCount(open & meets[ray]) > met) {
                    best = ray;
                    met = Integer.bitCount(open & meets[ray]);
                }
            }
            return best;
        }
    }

    /** RUNS, and the machine of the fewest states by which they could be told. */
    private static final class Telling {
        static final int PAIRS = STATES * LOOKS;
        static final int ALL_TOLD = -1;

        int runs;
        /** How many states do; 0 if STATES don't. */
        int states;
        private int steps;
        private boolean worked;
        private final int[] stepLook = new int[RUNS * STEPS];
        private final int[] stepTold = new int[RUNS * STEPS];
        private final boolean[] stepEnds = new boolean[RUNS * STEPS];
        // by pairs of a state and a look
        private final int[] answers = new int[PAIRS];
        private final int[] goesTo = new int[PAIRS];
        private final int[] reasons = new int[PAIRS];

        void open(Draft draft) {
            runs = draft.runs;
            steps = 0;
            worked = false;
            for (int run = 0; run < runs; run++) {
                int length = draft.runLength[run];
                for (int step = 0; step < length; step++) {
                    stepLook[steps] = draft.stepLook[STEPS * run + step];
                    stepTold[steps] = draft.stepTold[STEPS * run + step];
                    stepEnds[steps] = step == length - 1;
                    steps++;
                }
            }
        }

        /** Finds the machine, once for each BOOK. */
        void work() {
            if (worked) {
                return;
            }
            worked = true;
            for (int many = 1; many <= STATES; many++) {
                states = many;
                for (int pair = 0; pair < PAIRS; pair++) {
                    answers[pair] = NOT_SO;
                    goesTo[pair] = NOT_SO;
                }
                if (tell(0, 0, 0, 0) == ALL_TOLD) {
                    return;
                }
            }
            states = 0;
        }

        int entry(int state, int look, boolean next) {
            int pair = LOOKS * state + look;
            return next ? goesTo[pair] : answers[pair];
        }

        /**
         * Tells the steps from one on, in a state to which the pairs of a path led; the highest is
         * that of the states gone to as yet. ALL_TOLD, or, if it can't be, pairs (bits) whose going
         * on as now is alone enough for that: where the pair that is asked for here isn't among
         * them, no other state for it would help.
         */
        private int tell(int step, int state, int path, int highest) {
            if (step >= steps) {
                return ALL_TOLD;
            }
            int pair = LOOKS * state + stepLook[step];
            if (answers[pair] >= 0) {
                if (answers[pair] != stepTold[step]) {
                    return path | reasons[pair];
                }
                return tellOn(step, pair, path, highest);
            }
            answers[pair] = stepTold[step];
            reasons[pair] = path;
            int blame = 0;
            boolean helps = true;
            // of states not gone to as yet one is as good as another: the first stands for them all
            int last = Math.min(states - 1, highest + 1);
            for (int to = 0; helps && to <= last; to++) {
                goesTo[pair] = to;
                int result = tellOn(step, pair, path, Math.max(highest, to));
                if (result == ALL_TOLD) {
                    return ALL_TOLD;
                }
                helps = (result >> pair & 1) != 0;
                blame = helps ? blame | result & ~(1 << pair) : result;
            }
            answers[pair] = NOT_SO;
            goesTo[pair] = NOT_SO;
            return blame;
        }

        /** Each step is one deeper, and there are RUNS * STEPS at most. */
        private int tellOn(int step, int pair, int path, int highest) {
            if (stepEnds[step]) {
                return tell(step + 1, 0, 0, highest);
            }
            return tell(step + 1, goesTo[pair], path | 1 << pair, highest);
        }
    }

    /** ACTS that can be taken back or made again, and MARKS. */
    private static final class History {
        static final int KEPT = 20;
        static final int MARKS = 4;
        static final int PARTS = 5;
        static final int FLIP = 0;
        static final int DROP = 1;
        static final int FORGET = 2;
        static final int SHIFT = 3;

        /** ACTS that can be undone. */
        int made;
        /** Those and the ones that can be redone, which stand behind them. */
        int known;
        int marks;
        final int[][] acts = new int[KEPT][PARTS];
        /** THE TABLE ahead of each ACT, and behind the last one that was undone. */
        private final int[][] rows = new int[KEPT + 1][Table.ROW];
        private final int[][] marked = new int[MARKS][Table.ROW];
        private final Table table;

        History(Table seen) {
            table = seen;
        }

        void open() {
            made = 0;
            known = 0;
            marks = 0;
        }

        /** Comes ahead of the ACT itself. */
        void begin(int kind, int what) {
            if (made >= KEPT) {
                leaveOldest();
            }
            table.save(rows[made]);
            int[] act = acts[made];
            act[0] = kind;
            act[1] = what;
            act[2] = NOT_SO;
            act[3] = NOT_SO;
            act[4] = NOT_SO;
            made++;
            known = made;
        }

        void tellMove(int from, int to, int n) {
            if (made > 0) {
                int[] act = acts[made - 1];
                act[2] = from;
                act[3] = to;
                act[4] = n;
            }
        }

        private void leaveOldest() {
            int[] act = acts[0];
            int[] row = rows[0];
            for (int i = 0; i < KEPT - 1; i++) {
                acts[i] = acts[i + 1];
                rows[i] = rows[i + 1];
            }
            acts[KEPT - 1] = act;
            rows[KEPT - 1] = row;
            made = KEPT - 1;
        }

        boolean takeBack() {
            if (made == 0) {
                return false;
            }
            table.save(rows[made]);
            made--;
            table.restore(rows[made]);
            return true;
        }

        boolean makeAgain() {
            if (made >= known) {
                return false;
            }
            made++;
            table.restore(rows[made]);
            return true;
        }

        int keep() {
            table.save(marked[marks]);
            marks++;
            return marks - 1;
        }

        boolean goBack(int number) {
            if (number < 0 || number >= marks) {
                return false;
            }
            table.restore(marked[number]);
            made = 0;
            known = 0;
            return true;
        }
    }
}
