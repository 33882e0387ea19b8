import java.util.Arrays;

/** A valley in which whoever has kept his word may break it. DOC.md tells what each call does. */
public final class NotchSticks {
    public static final int NONE = -1;

    // What answers "can't be", where NONE itself could be a true answer.
    private static final int NO_DEAL_POSSIBLE = NONE - 1;
    private static final int NO_SIZE = NONE - 99;
    private static final int NO_NUMBER = NONE - 9999999;
    private static final int NO_WORTH = NONE - 999999999;

    private static final int SIZES = 12;
    private static final int NEVER = SIZES + 1;
    private static final int MOST_NEED = 9;
    private static final int MOST_ROUNDS = 200;
    private static final int MOST_YEAR = 999;
    private static final int MOST_PRICE = 9999;
    private static final int MOST_LENT = 99;
    private static final int TAPE_ROOM = 400;
    private static final int TEXTS = 6;
    private static final int LAWS = 2;

    // What of() and stick() tell of one, by their numbers.
    private static final int RULE = 0;
    private static final int AGE = 1;
    private static final int KEPT = 2;
    private static final int BROKEN = 3;
    private static final int LARGE = 4;
    private static final int LOST = 5;
    private static final int OUT = 6;
    private static final int PURSE = 7;
    private static final int UNLAWFUL = 8;
    private static final int MARKS = 9;
    private static final int MOST_NOTCHES = 9999;
    private static final int NO_RULE = 4;
    private static final int MOST_AGE = 99;
    private static final int[] MOST_ON_STICK = {4, 99, 9999, 9999, 9999, 9999, 9};

    // What set() tells, by its numbers; behind these stand the weights of sizes, size 1 at WEIGHTS + 1.
    private static final int KEEP = 0;
    private static final int BREAK = 1;
    private static final int HURT = 2;
    private static final int BOTH = 3;
    private static final int FINE = 4;
    private static final int NOTICE = 5;
    private static final int EXILE = 6;
    private static final int CUT = 7;
    private static final int EACH = 8;
    private static final int LAW = 9;
    private static final int WEIGHTS = 10;
    private static final int[] FIRST_TERMS =
        {3, 5, 4, 1, 6, 1000, 1, 0, 4, 0, 0, 1, 0, 0, 0, 0, 0, 0, 0, 0, 0, 0, 0};
    // Number 10 has no term: nothing is at most -1.
    private static final int[] MOST_TERMS =
        {99, 99, 99, 99, 99, 1000, 9, 99, 20, 1, -1, 99, 99, 99, 99, 99, 99, 99, 99, 99, 99, 99, 99};

    // What book() tells of a deal, by its numbers.
    private static final int IN_YEAR = 0;
    private static final int FIRST_ONE = 1;
    private static final int OF_SIZE = 3;
    private static final int FIRST_DID = 4;
    private static final int FIRST_AGE = 6;
    private static final int ENTRY = 8;
    private static final int BOOK_ROOM = 300;
    private static final int DID_KEEP = 0;
    private static final int DID_BREAK_LAWFULLY = 1;
    private static final int DID_BREAK_UNLAWFULLY = 2;
    private static final int DID_BREAK_UNNOTICED = 3;

    // What one wants by his rule, as a set.
    private static final int WANTS_DEAL = 1;
    private static final int WANTS_BREAK = 2;

    // Tokens: a number is itself, a keyword its number in WORDS behind FIRST_WORD, a sign its character behind SIGN.
    private static final String WORDS =
        "kept broken large lost size age year okept obroken olarge olost oage lawful olawful purse or and not when may deal break ";
    private static final int FIRST_WORD = 10000;
    private static final int LAW_NAMES = 7;
    private static final int RULE_NAMES = 15;
    private static final int WORD_OR = 10015;
    private static final int WORD_AND = 10016;
    private static final int WORD_NOT = 10017;
    private static final int WORD_WHEN = 10018;
    private static final int WORD_MAY = 10019;
    private static final int WORD_DEAL = 10020;
    private static final int WORD_BREAK = 10021;
    private static final String SIGNS = ";+-*/()<=>";
    private static final int SIGN = 20000;
    private static final int SIGN_END = SIGN + ';';
    private static final int SIGN_PLUS = SIGN + '+';
    private static final int SIGN_MINUS = SIGN + '-';
    private static final int SIGN_TIMES = SIGN + '*';
    private static final int SIGN_PART = SIGN + '/';
    private static final int SIGN_OPEN = SIGN + '(';
    private static final int SIGN_CLOSE = SIGN + ')';
    private static final int SIGN_LESS = SIGN + '<';
    private static final int SIGN_SAME = SIGN + '=';
    private static final int SIGN_MORE = SIGN + '>';
    private static final int NO_TOKEN = 30000;
    private static final int TEXT_END = 30001;

    private final Valley now;
    private final Reader reader;
    private final Reckoner reckoner;
    private final byte[] tape;
    private int taped;
    // Both are made when first asked for: most objects need neither.
    private Valley pictured;
    private Valley dreamt;

    public NotchSticks() {
        now = new Valley();
        reader = new Reader();
        reckoner = new Reckoner();
        tape = new byte[TAPE_ROOM];
    }

    public int state(int v) {
        int before = now.seed;
        now.seed = v;
        return before;
    }

    public int one(int age, int rule) {
        if (!isWithin(age, 0, MOST_AGE) || !isWithin(rule, 0, NO_RULE) || now.people >= now.folk.length) {
            return NONE;
        }
        int number = now.people;
        now.folk[number][AGE] = age;
        now.folk[number][RULE] = rule;
        now.people++;
        return number;
    }

    public boolean stick(int who, int what, int v) {
        if (!now.isOne(who) || !isWithin(what, 0, OUT) || !isWithin(v, 0, MOST_ON_STICK[what])) {
            return false;
        }
        now.folk[who][what] = v;
        return true;
    }

    public boolean set(int what, int v) {
        if (!isWithin(what, 0, MOST_TERMS.length - 1) || !isWithin(v, 0, MOST_TERMS[what])) {
            return false;
        }
        now.terms[what] = v;
        return true;
    }

    public int feed(int a, int b, int c, int d, int e) {
        if (taped + 20 > tape.length) {
            return NONE;
        }
        putFour(a);
        putFour(b);
        putFour(c);
        putFour(d);
        putFour(e);
        return taped;
    }

    private void putFour(int number) {
        for (int shift = 24; shift >= 0 && taped < tape.length; shift -= 8) {
            tape[taped] = (byte) (number >>> shift);
            taped++;
        }
    }

    public boolean end(int n) {
        if (!isWithin(n, 0, taped)) {
            return false;
        }
        taped = n;
        return true;
    }

    public int text(int k) {
        reader.forget();
        int length = taped;
        // The tape is empty behind every text(), whatever it answers.
        taped = 0;
        if (!isWithin(k, 0, TEXTS - 1)) {
            return NONE;
        }
        Text made = reader.read(tape, length, k < LAWS);
        if (made == null) {
            return NONE;
        }
        now.texts[k] = made;
        return made.lines;
    }

    public int fault(int what) {
        if (what == 0) {
            return reader.fault;
        }
        return what == 1 ? reader.place : NONE;
    }

    public int of(int who, int what) {
        return now.isOne(who) && isWithin(what, 0, MARKS - 1) ? now.folk[who][what] : NO_NUMBER;
    }

    public int would(int a, int b, int size, int what) {
        if (!now.areTwo(a, b, size) || !isWithin(what, 0, 2)) {
            return NONE;
        }
        if (what == 2) {
            return now.isLawful(a, size) ? 1 : 0;
        }
        int asked = what == 0 ? WANTS_DEAL : WANTS_BREAK;
        return (now.wantsNow(a, b, size) & asked) != 0 ? 1 : 0;
    }

    public int deal(int a, int b, int size) {
        return now.areTwo(a, b, size) ? now.strike(a, b, size) : NO_DEAL_POSSIBLE;
    }

    public int book(int i, int what) {
        return isWithin(i, 0, now.deals - 1) && isWithin(what, 0, ENTRY - 1) ? now.pages[i * ENTRY + what] : NONE;
    }

    public int years(int n) {
        if (!isWithin(n, 1, 60) || now.year + n > MOST_YEAR) {
            return NONE;
        }
        int before = now.deals;
        for (int i = 0; i < n; i++) {
            now.passYear();
        }
        return now.deals - before;
    }

    public long plan(int k, int s, int need, int p, int what) {
        if (!isWithin(k, 0, 60) || !isWithin(s, 0, Reckoner.MOST_SURPLUS) || !isWithin(need, 1, MOST_NEED)) {
            return NO_WORTH;
        }
        if (!isWithin(p, 0, 1000) || !reckoner.ready(now.terms)) {
            return NO_WORTH;
        }
        if (what == 0) {
            reckoner.foresee(k, need, p);
            return reckoner.values[s];
        }
        if (what == 1 && k > 0) {
            reckoner.foresee(k - 1, need, p);
            return reckoner.edge(s, need, p);
        }
        if (what == 2 && s < Reckoner.MOST_SURPLUS) {
            reckoner.foresee(k, need, p);
            return reckoner.values[s + 1] - reckoner.values[s];
        }
        return NO_WORTH;
    }

    public long longer(int t, int need, int r, int what) {
        if (!isWithin(need, 1, MOST_NEED) || !isWithin(r, 1, MOST_ROUNDS) || !reckoner.ready(now.terms)) {
            return NONE;
        }
        if (t == NONE) {
            return reckoner.bestEdge(need, r);
        }
        if (!isWithin(t, 1, NEVER) || !isWithin(what, 0, 1)) {
            return NONE;
        }
        reckoner.goRounds(t, need, r);
        return what == 0 ? reckoner.broke : reckoner.gain;
    }

    public long common(int t, int need, int r) {
        if (!isWithin(t, 1, NEVER) || !isWithin(r, 1, MOST_ROUNDS) || !reckoner.ready(now.terms)) {
            return NO_WORTH;
        }
        if (need == NONE) {
            return reckoner.bestNeed(t, r);
        }
        if (!isWithin(need, 1, MOST_NEED)) {
            return NO_WORTH;
        }
        reckoner.goRounds(t, need, r);
        return reckoner.gainOfAll;
    }

    public long pair(int k, int a, int b, int need, int t, int u, int what) {
        if (!isPair(k, a, b, need) || !isWithin(t, 1, NEVER) || !isWithin(u, 1, NEVER) || !isWithin(what, 0, 1)) {
            return NO_WORTH;
        }
        if (!reckoner.ready(now.terms)) {
            return NO_WORTH;
        }
        reckoner.goPair(k, a, b, need, t, u);
        return what == 0 ? reckoner.firstGain : reckoner.secondGain;
    }

    public int holds(int k, int a, int b, int need, int what) {
        if (!isPair(k, a, b, need) || !isWithin(what, 0, 2) || !reckoner.ready(now.terms)) {
            return NONE;
        }
        reckoner.findHolds(k, a, b, need);
        if (what == 0) {
            return reckoner.holding;
        }
        return what == 1 ? reckoner.firstHold : reckoner.mostHold;
    }

    private static boolean isPair(int k, int a, int b, int need) {
        return isWithin(k, 1, 20) && isWithin(a, 0, Reckoner.MOST_OF_PAIR) && isWithin(b, 0, Reckoner.MOST_OF_PAIR)
            && isWithin(need, 1, MOST_NEED);
    }

    public int safe() {
        int set = 0;
        for (int who = 0; who < now.people; who++) {
            if (now.leastLawful(who) == NONE) {
                set |= 1 << who;
            }
        }
        return set;
    }

    public int named(int i) {
        for (int who = 0; who < now.people; who++) {
            if (now.rank(who) == i) {
                return who;
            }
        }
        return NONE;
    }

    public int annals(int year, int what) {
        if (!isWithin(year, 0, MOST_YEAR) || !isWithin(what, 0, 3)) {
            return NONE;
        }
        return now.annal(year, what);
    }

    public int rests(int a, int b, int size) {
        return now.areTwo(a, b, size) ? now.restingCouples(a, b, size) : NONE;
    }

    public int whom(int who, int size) {
        return now.isOne(who) && isWithin(size, 1, SIZES) ? now.bestFor(who, size) : NONE;
    }

    public int trust(int decade, int what) {
        if (!isWithin(decade, 0, 9) || !isWithin(what, 0, 2)) {
            return NONE;
        }
        return now.didAtAge(decade, what);
    }

    public int held(int who, int what) {
        if (!now.isOne(who) || !isWithin(what, 0, 1)) {
            return NO_NUMBER;
        }
        if (what == 0) {
            return now.folk[who][KEPT] - now.did(who, DID_KEEP) - now.did(who, DID_BREAK_UNNOTICED);
        }
        return now.folk[who][BROKEN] - now.did(who, DID_BREAK_LAWFULLY);
    }

    public boolean lend(int from, int to, int k, int price) {
        if (!now.isOne(from) || !now.isOne(to) || from == to) {
            return false;
        }
        if (!isWithin(k, 1, MOST_LENT) || !isWithin(price, 0, MOST_PRICE)) {
            return false;
        }
        int[] giver = now.folk[from];
        int[] taker = now.folk[to];
        if (giver[KEPT] < k || taker[KEPT] + k > MOST_NOTCHES) {
            return false;
        }
        giver[KEPT] -= k;
        taker[KEPT] += k;
        giver[PURSE] += price;
        taker[PURSE] -= price;
        return true;
    }

    public int thought(int n, int law, int what) {
        // Years in thought may go beyond the last year: nothing of them stays.
        if (!isWithin(n, 1, 30) || !isWithin(law, NONE, LAWS - 1)) {
            return NO_NUMBER;
        }
        if (law == NONE) {
            return dream(n, 1, 0) > dream(n, 0, 0) ? 1 : 0;
        }
        return isWithin(what, 0, 3) ? dream(n, law, what) : NO_NUMBER;
    }

    private int dream(int n, int law, int what) {
        if (dreamt == null) {
            dreamt = new Valley();
        }
        dreamt.become(now);
        dreamt.terms[LAW] = law;
        for (int i = 0; i < n; i++) {
            dreamt.passYear();
        }
        switch (what) {
            case 0:
                return dreamt.allPurses() - now.allPurses();
            case 1:
                return dreamt.deals - now.deals;
            case 2:
                return dreamt.breaksFrom(now.deals, false);
            default:
                return dreamt.breaksFrom(now.deals, true);
        }
    }

    public int told(int who, int size, int what) {
        if (!now.isOne(who) || !isWithin(size, 1, SIZES) || !isWithin(what, 0, 1)) {
            return NO_SIZE;
        }
        int least = now.leastLawful(who);
        if (least == NONE) {
            return NO_SIZE;
        }
        return what == 0 ? least : least - size;
    }

    public boolean image(boolean taken) {
        if (!taken) {
            if (pictured == null) {
                return false;
            }
            now.become(pictured);
            return true;
        }
        if (pictured == null) {
            pictured = new Valley();
        }
        pictured.become(now);
        return true;
    }

    public int look(int what) {
        switch (what) {
            case 0:
                return now.people;
            case 1:
                return now.year;
            case 2:
                return now.deals;
            case 3:
                return allWeights(now.terms);
            default:
                return isWithin(what - 10, 0, now.terms.length - 1) && what - 10 != WEIGHTS
                    ? now.terms[what - 10] : NONE;
        }
    }

    private static boolean isWithin(int v, int least, int most) {
        return v >= least && v <= most;
    }

    private static int allWeights(int[] terms) {
        int all = 0;
        for (int i = WEIGHTS + 1; i < terms.length; i++) {
            all += terms[i];
        }
        return all;
    }

    /** What comes to a purse for each size by what one did and the other one did. */
    private static int worth(int[] terms, boolean breaks, boolean otherBreaks) {
        if (breaks) {
            return otherBreaks ? -terms[BOTH] : terms[BREAK];
        }
        return otherBreaks ? -terms[HURT] : terms[KEEP];
    }

    /** A law or a rule as it was read. Nothing changes it, so that images may share it. */
    private static final class Text {
        final int lines;
        final int[] kinds;
        // Line i goes from starts[i] up to starts[i + 1] in the code, which has the signs behind what they join.
        final int[] starts;
        final int[] code;

        Text(int lines, int[] kinds, int[] starts, int[] code) {
            this.lines = lines;
            this.kinds = kinds;
            this.starts = starts;
            this.code = code;
        }

        boolean hasKind(int kind) {
            for (int line = 0; line < lines; line++) {
                if (kinds[line] == kind) {
                    return true;
                }
            }
            return false;
        }
    }

    /** Reads texts from the tape and tells their first fault. */
    private static final class Reader {
        private static final int MOST_LINES = 16;
        private static final int MOST_OPEN = 8;
        private static final int MOST_DIGITS = 4;

        int fault;
        int place;
        private final int[] tokens = new int[TAPE_ROOM + 1];
        private final int[] places = new int[TAPE_ROOM + 1];
        private final int[] kinds = new int[MOST_LINES];
        private final int[] starts = new int[MOST_LINES + 1];
        private final int[] code = new int[TAPE_ROOM];
        private int at;
        private int coded;
        private int names;

        Reader() {
            place = NONE;
        }

        void forget() {
            fault = 0;
            place = NONE;
        }

        /** The text, or null with its fault told. */
        Text read(byte[] tape, int length, boolean isLaw) {
            cut(tape, length);
            at = 0;
            coded = 0;
            names = isLaw ? LAW_NAMES : RULE_NAMES;
            int lines = 0;
            while (lines <= MOST_LINES && tokens[at] != TEXT_END) {
                if (!readLine(lines, isLaw)) {
                    // Who refuses a token stays at it; what isn't told apart is what can't stand there.
                    fault = fault == 0 ? 1 : fault;
                    place = places[at];
                    return null;
                }
                lines++;
            }
            starts[lines] = coded;
            return new Text(lines, Arrays.copyOf(kinds, lines), Arrays.copyOf(starts, lines + 1),
                Arrays.copyOf(code, coded));
        }

        private void cut(byte[] tape, int length) {
            int count = 0;
            int i = 0;
            while (i < length) {
                int c = tape[i] & 255;
                if (c == ' ' || c == '\n') {
                    i++;
                    continue;
                }
                int end = i + 1;
                boolean isLetter = isLetter(c);
                boolean isDigit = isDigit(c);
                while (end < length && (isLetter && isLetter(tape[end]) || isDigit && isDigit(tape[end]))) {
                    end++;
                }
                places[count] = i;
                if (isLetter) {
                    tokens[count] = word(tape, i, end);
                } else {
                    tokens[count] = isDigit ? number(tape, i, end) : sign(c);
                }
                count++;
                i = end;
            }
            places[count] = length;
            tokens[count] = TEXT_END;
        }

        private static boolean isLetter(int c) {
            return c >= 'a' && c <= 'z' || c >= 'A' && c <= 'Z';
        }

        private static boolean isDigit(int c) {
            return c >= '0' && c <= '9';
        }

        private static int word(byte[] tape, int from, int to) {
            int number = 0;
            int start = 0;
            for (int i = 0; i < WORDS.length(); i++) {
                if (WORDS.charAt(i) == ' ') {
                    if (i - start == to - from && isWord(tape, from, start, i - start)) {
                        return FIRST_WORD + number;
                    }
                    number++;
                    start = i + 1;
                }
            }
            return NO_TOKEN;
        }

        private static boolean isWord(byte[] tape, int from, int start, int length) {
            for (int i = 0; i < length; i++) {
                if (tape[from + i] != WORDS.charAt(start + i)) {
                    return false;
                }
            }
            return true;
        }

        private static int number(byte[] tape, int from, int to) {
            if (to - from > MOST_DIGITS) {
                return NO_TOKEN;
            }
            int number = 0;
            for (int i = from; i < to; i++) {
                number = 10 * number + tape[i] - '0';
            }
            return number;
        }

        private static int sign(int c) {
            return SIGNS.indexOf((char) c) >= 0 ? SIGN + c : NO_TOKEN;
        }

        private boolean readLine(int line, boolean isLaw) {
            int kind = tokens[at];
            if (isLaw ? kind != WORD_MAY : kind != WORD_DEAL && kind != WORD_BREAK) {
                return false;
            }
            if (line >= MOST_LINES) {
                fault = 3;
                return false;
            }
            kinds[line] = kind;
            starts[line] = coded;
            at++;
            if (tokens[at] != WORD_WHEN) {
                return false;
            }
            at++;
            if (!readEither(0) || tokens[at] != SIGN_END) {
                return false;
            }
            at++;
            return true;
        }

        /** B: what stands between 'or', each of parts between 'and', with open of ( and not around it. */
        private boolean readEither(int open) {
            boolean isOr = false;
            boolean isAnd = false;
            for (int part = 0; part < tokens.length; part++) {
                if (!readCondition(open)) {
                    return false;
                }
                if (isAnd) {
                    put(WORD_AND);
                }
                isAnd = tokens[at] == WORD_AND;
                if (!isAnd) {
                    if (isOr) {
                        put(WORD_OR);
                    }
                    isOr = tokens[at] == WORD_OR;
                    if (!isOr) {
                        return true;
                    }
                }
                at++;
            }
            return false;
        }

        private boolean readCondition(int open) {
            int token = tokens[at];
            if (token != WORD_NOT && token != SIGN_OPEN) {
                return readComparison();
            }
            if (open >= MOST_OPEN) {
                fault = 3;
                return false;
            }
            at++;
            if (token == WORD_NOT) {
                if (!readCondition(open + 1)) {
                    return false;
                }
                put(WORD_NOT);
                return true;
            }
            if (!readEither(open + 1) || tokens[at] != SIGN_CLOSE) {
                return false;
            }
            at++;
            return true;
        }

        private boolean readComparison() {
            if (!readSum()) {
                return false;
            }
            int sign = tokens[at];
            if (sign != SIGN_LESS && sign != SIGN_SAME && sign != SIGN_MORE) {
                return false;
            }
            at++;
            if (!readSum()) {
                return false;
            }
            put(sign);
            return true;
        }

        /** E, with the parts of each T put at once and a + or - put when the T behind it stands. */
        private boolean readSum() {
            int sign = 0;
            int waiting = 0;
            for (int part = 0; part < tokens.length; part++) {
                int unit = tokens[at];
                if (!isUnit(unit) || sign == SIGN_PART && unit >= FIRST_WORD) {
                    return false;
                }
                if (sign == SIGN_PART && unit == 0) {
                    fault = 2;
                    return false;
                }
                put(unit);
                if (sign == SIGN_TIMES || sign == SIGN_PART) {
                    put(sign);
                }
                at++;
                sign = tokens[at];
                if (sign != SIGN_TIMES && sign != SIGN_PART) {
                    if (waiting != 0) {
                        put(waiting);
                    }
                    if (sign != SIGN_PLUS && sign != SIGN_MINUS) {
                        return true;
                    }
                    waiting = sign;
                }
                at++;
            }
            return false;
        }

        private boolean isUnit(int token) {
            return token < FIRST_WORD + names;
        }

        private void put(int piece) {
            if (coded < code.length) {
                code[coded] = piece;
                coded++;
            }
        }
    }

    /** Says whether lines of a text are so of the names' values. */
    private static final class Judge {
        // Eight ( leave two values open each, and a comparison some more.
        private static final int DEEPEST = 40;

        final int[] values = new int[RULE_NAMES];
        private final int[] stack = new int[DEEPEST];

        boolean isSo(Text text, int kind) {
            for (int line = 0; line < text.lines; line++) {
                if (text.kinds[line] == kind && isLineSo(text, line)) {
                    return true;
                }
            }
            return false;
        }

        private boolean isLineSo(Text text, int line) {
            int top = -1;
            int end = text.starts[line + 1];
            for (int i = text.starts[line]; i < end; i++) {
                int piece = text.code[i];
                if (piece < FIRST_WORD + RULE_NAMES) {
                    if (top + 1 < stack.length) {
                        top++;
                        stack[top] = piece < FIRST_WORD ? piece : values[piece - FIRST_WORD];
                    }
                } else if (piece == WORD_NOT) {
                    if (top >= 0) {
                        stack[top] = 1 - stack[top];
                    }
                } else if (top >= 1) {
                    top--;
                    stack[top] = join(piece, stack[top], stack[top + 1]);
                }
            }
            return top >= 0 && stack[top] != 0;
        }

        private static int join(int sign, int x, int y) {
            switch (sign) {
                case SIGN_PLUS:
                    return x + y;
                case SIGN_MINUS:
                    return x - y;
                case SIGN_TIMES:
                    return x * y;
                case SIGN_PART:
                    return y == 0 ? 0 : x / y;
                case SIGN_LESS:
                    return x < y ? 1 : 0;
                case SIGN_SAME:
                    return x == y ? 1 : 0;
                case SIGN_MORE:
                    return x > y ? 1 : 0;
                case WORD_AND:
                    return x & y;
                default:
                    return x | y;
            }
        }
    }

    /** All that is and was told but the tape, and what goes on by it. */
    private static final class Valley {
        int seed;
        int year;
        int people;
        int deals;
        final int[][] folk = new int[12][MARKS];
        final int[] terms = FIRST_TERMS.clone();
        final Text[] texts = new Text[TEXTS];
        final int[] pages = new int[BOOK_ROOM * ENTRY];
        private final Judge judge = new Judge();

        Valley() {
            Text empty = new Text(0, new int[0], new int[1], new int[0]);
            for (int k = 0; k < texts.length; k++) {
                texts[k] = empty;
            }
        }

        void become(Valley other) {
            seed = other.seed;
            year = other.year;
            people = other.people;
            deals = other.deals;
            for (int who = 0; who < folk.length; who++) {
                System.arraycopy(other.folk[who], 0, folk[who], 0, MARKS);
            }
            System.arraycopy(other.terms, 0, terms, 0, terms.length);
            for (int k = 0; k < texts.length; k++) {
                texts[k] = other.texts[k];
            }
            System.arraycopy(other.pages, 0, pages, 0, deals * ENTRY);
        }

        boolean isOne(int who) {
            return isWithin(who, 0, people - 1);
        }

        boolean areTwo(int a, int b, int size) {
            return isOne(a) && isOne(b) && a != b && isWithin(size, 1, SIZES);
        }

        private int draw(int m) {
            seed = 1664525 * seed + 1013904223;
            return m > 0 ? (seed >>> 8) % m : 0;
        }

        boolean isLawful(int who, int size) {
            tellOwn(folk[who], size);
            return judge.isSo(texts[terms[LAW]], WORD_MAY);
        }

        /** Gives the judge what both laws and rules name, in the order of WORDS. */
        private void tellOwn(int[] one, int size) {
            int[] values = judge.values;
            System.arraycopy(one, KEPT, values, 0, 4);
            values[4] = size;
            values[5] = one[AGE];
            values[6] = year;
        }

        /** The least size of which a break would be lawful for one, or NONE. */
        int leastLawful(int who) {
            for (int size = 1; size <= SIZES; size++) {
                if (isLawful(who, size)) {
                    return size;
                }
            }
            return NONE;
        }

        int wantsNow(int a, int b, int size) {
            boolean lawful = isLawful(a, size);
            return wants(a, b, size, lawful, isLawful(b, size));
        }

        private int wants(int a, int b, int size, boolean lawful, boolean otherLawful) {
            int[] one = folk[a];
            int[] other = folk[b];
            if (one[RULE] >= NO_RULE) {
                return WANTS_DEAL;
            }
            tellOwn(one, size);
            int[] values = judge.values;
            System.arraycopy(other, KEPT, values, 7, 4);
            values[11] = other[AGE];
            values[12] = lawful ? 1 : 0;
            values[13] = otherLawful ? 1 : 0;
            values[14] = one[PURSE];
            Text rule = texts[LAWS + one[RULE]];
            int wanted = !rule.hasKind(WORD_DEAL) || judge.isSo(rule, WORD_DEAL) ? WANTS_DEAL : 0;
            return judge.isSo(rule, WORD_BREAK) ? wanted | WANTS_BREAK : wanted;
        }

        /** A deal: its number in the book, or NONE if it comes to nothing. */
        int strike(int a, int b, int size) {
            int[] one = folk[a];
            int[] other = folk[b];
            if (one[OUT] > 0 || other[OUT] > 0 || deals >= BOOK_ROOM) {
                return NONE;
            }
            boolean lawful = isLawful(a, size);
            boolean otherLawful = isLawful(b, size);
            int wanted = wants(a, b, size, lawful, otherLawful);
            int otherWanted = wants(b, a, size, otherLawful, lawful);
            if ((wanted & otherWanted & WANTS_DEAL) == 0) {
                return NONE;
            }
            boolean breaks = (wanted & WANTS_BREAK) != 0;
            boolean otherBreaks = (otherWanted & WANTS_BREAK) != 0;
            one[PURSE] += worth(terms, breaks, otherBreaks) * size;
            other[PURSE] += worth(terms, otherBreaks, breaks) * size;
            int page = deals * ENTRY;
            pages[page + IN_YEAR] = year;
            pages[page + FIRST_ONE] = a;
            pages[page + FIRST_ONE + 1] = b;
            pages[page + OF_SIZE] = size;
            pages[page + FIRST_DID] = mark(one, size, breaks, lawful);
            pages[page + FIRST_DID + 1] = mark(other, size, otherBreaks, otherLawful);
            pages[page + FIRST_AGE] = one[AGE];
            pages[page + FIRST_AGE + 1] = other[AGE];
            deals++;
            return deals - 1;
        }

        private int mark(int[] one, int size, boolean breaks, boolean lawful) {
            if (!breaks) {
                notch(one, KEPT, LARGE, size);
                return DID_KEEP;
            }
            if (terms[NOTICE] < 1000 && draw(1000) >= terms[NOTICE]) {
                notch(one, KEPT, LARGE, size);
                return DID_BREAK_UNNOTICED;
            }
            if (lawful) {
                notch(one, BROKEN, LOST, size);
                return DID_BREAK_LAWFULLY;
            }
            one[UNLAWFUL]++;
            one[OUT] = terms[EXILE];
            one[PURSE] -= terms[FINE] * size;
            return DID_BREAK_UNLAWFULLY;
        }

        private static void notch(int[] one, int count, int sizes, int size) {
            one[count] = Math.min(one[count] + 1, MOST_NOTCHES);
            one[sizes] = Math.min(one[sizes] + size, MOST_NOTCHES);
        }

        void passYear() {
            int all = allWeights(terms);
            if (people >= 2 && all > 0) {
                for (int i = 0; i < terms[EACH]; i++) {
                    int a = draw(people);
                    int nth = draw(people - 1);
                    int b = nth < a ? nth : nth + 1;
                    strike(a, b, sizeAt(draw(all)));
                }
            }
            for (int who = 0; who < people; who++) {
                growOlder(folk[who]);
            }
            year++;
        }

        private int sizeAt(int drawn) {
            int sum = 0;
            for (int size = 1; size < SIZES; size++) {
                sum += terms[WEIGHTS + size];
                if (sum > drawn) {
                    return size;
                }
            }
            return SIZES;
        }

        private void growOlder(int[] one) {
            one[OUT] = Math.max(one[OUT] - 1, 0);
            one[AGE] = Math.min(one[AGE] + 1, MOST_AGE);
            if (terms[CUT] > 0 && one[AGE] == terms[CUT]) {
                one[KEPT] = 0;
                one[BROKEN] = 0;
                one[LARGE] = 0;
                one[LOST] = 0;
            }
        }

        int allPurses() {
            int sum = 0;
            for (int who = 0; who < people; who++) {
                sum += folk[who][PURSE];
            }
            return sum;
        }

        /** Breaks in the book from a deal on: all, or the unlawful ones alone. */
        int breaksFrom(int deal, boolean unlawfulOnly) {
            int count = 0;
            for (int i = deal; i < deals; i++) {
                for (int side = 0; side < 2; side++) {
                    int did = pages[i * ENTRY + FIRST_DID + side];
                    if (unlawfulOnly ? did == DID_BREAK_UNLAWFULLY : did != DID_KEEP) {
                        count++;
                    }
                }
            }
            return count;
        }

        /** How many are named ahead of one. */
        int rank(int who) {
            int ahead = 0;
            for (int other = 0; other < people; other++) {
                if (other != who && isAhead(other, who)) {
                    ahead++;
                }
            }
            return ahead;
        }

        private boolean isAhead(int a, int b) {
            int surplus = folk[a][KEPT] - folk[a][BROKEN];
            int otherSurplus = folk[b][KEPT] - folk[b][BROKEN];
            if (surplus != otherSurplus) {
                return surplus > otherSurplus;
            }
            return folk[a][LARGE] != folk[b][LARGE] ? folk[a][LARGE] > folk[b][LARGE] : a < b;
        }

        int annal(int ofYear, int what) {
            int count = 0;
            int sizes = 0;
            int breaks = 0;
            int greatest = 0;
            for (int i = 0; i < deals; i++) {
                int page = i * ENTRY;
                if (pages[page + IN_YEAR] != ofYear) {
                    continue;
                }
                int size = pages[page + OF_SIZE];
                count++;
                sizes += size;
                for (int side = 0; side < 2; side++) {
                    if (pages[page + FIRST_DID + side] != DID_KEEP) {
                        breaks++;
                        greatest = Math.max(greatest, size);
                    }
                }
            }
            if (what < 2) {
                return what == 0 ? count : sizes;
            }
            return what == 2 ? breaks : greatest;
        }

        int restingCouples(int a, int b, int size) {
            boolean lawful = isLawful(a, size);
            boolean otherLawful = isLawful(b, size);
            int set = 0;
            for (int x = 0; x < 3; x++) {
                for (int y = 0; y < 3; y++) {
                    if (isBestDoing(x, y, size, lawful) && isBestDoing(y, x, size, otherLawful)) {
                        set |= 1 << 3 * x + y;
                    }
                }
            }
            return set;
        }

        private boolean isBestDoing(int mine, int others, int size, boolean lawful) {
            int value = coupleValue(mine, others, size, lawful);
            for (int doing = 0; doing < 3; doing++) {
                if (coupleValue(doing, others, size, lawful) > value) {
                    return false;
                }
            }
            return true;
        }

        /** In thousandths, for who does mine: 0 not deal, 1 keep, 2 break. */
        private int coupleValue(int mine, int others, int size, boolean lawful) {
            if (mine == 0 || others == 0) {
                return 0;
            }
            int value = 1000 * worth(terms, mine == 2, others == 2) * size;
            return mine == 2 && !lawful ? value - terms[NOTICE] * terms[FINE] * size : value;
        }

        int bestFor(int who, int size) {
            int best = NONE;
            for (int other = 0; other < people; other++) {
                if (other == who || folk[other][OUT] > 0) {
                    continue;
                }
                if ((wantsNow(who, other, size) & WANTS_DEAL) == 0 || wantsNow(other, who, size) != WANTS_DEAL) {
                    continue;
                }
                if (best == NONE || folk[other][KEPT] > folk[best][KEPT]) {
                    best = other;
                }
            }
            return best;
        }

        int didAtAge(int decade, int what) {
            int count = 0;
            for (int i = 0; i < deals; i++) {
                for (int side = 0; side < 2; side++) {
                    int did = pages[i * ENTRY + FIRST_DID + side];
                    if (pages[i * ENTRY + FIRST_AGE + side] / 10 != decade) {
                        continue;
                    }
                    if (what == 0 || did != DID_KEEP && (what == 1 || did != DID_BREAK_UNNOTICED)) {
                        count++;
                    }
                }
            }
            return count;
        }

        /** How often the book tells that one did so. */
        int did(int who, int what) {
            int count = 0;
            for (int i = 0; i < deals; i++) {
                for (int side = 0; side < 2; side++) {
                    int page = i * ENTRY + side;
                    if (pages[page + FIRST_ONE] == who && pages[page + FIRST_DID] == what) {
                        count++;
                    }
                }
            }
            return count;
        }
    }

    /** Reckons by worths and weights alone: what keeping is worth, how words break in the long run, pairs. */
    private static final class Reckoner {
        static final int MOST_SURPLUS = 24;
        static final int MOST_OF_PAIR = 8;
        private static final int SIDE = MOST_OF_PAIR + 1;
        private static final long ALL = 1000000000;
        private static final long MILLION = 1000000;
        private static final int COUPLE = 20;

        final long[] values = new long[MOST_SURPLUS + 1];
        long broke;
        long gain;
        long gainOfAll;
        long firstGain;
        long secondGain;
        int holding;
        int firstHold;
        int mostHold;
        private int[] terms;
        private int all;
        private int greatest;
        private final long[] later = new long[MOST_SURPLUS + 1];
        private final long[] parts = new long[SIZES + 1];
        private final long[] pairNow = new long[SIDE * SIDE];
        private final long[] pairNext = new long[SIDE * SIDE];
        private final long[] firstGains = new long[COUPLE * (NEVER + 1)];
        private final long[] secondGains = new long[COUPLE * (NEVER + 1)];

        Reckoner() {
            terms = FIRST_TERMS;
        }

        /** False without weights: then nothing can be reckoned. */
        boolean ready(int[] terms) {
            this.terms = terms;
            all = allWeights(terms);
            greatest = 0;
            for (int size = 1; size <= SIZES; size++) {
                if (terms[WEIGHTS + size] > 0) {
                    greatest = size;
                }
            }
            return all > 0;
        }

        /** Leaves in values the value of each surplus with k deals to come. */
        void foresee(int k, int need, int p) {
            Arrays.fill(values, 0);
            for (int deal = 0; deal < k; deal++) {
                System.arraycopy(values, 0, later, 0, values.length);
                for (int s = 0; s <= MOST_SURPLUS; s++) {
                    values[s] = valueOf(s, need, p);
                }
            }
        }

        private long valueOf(int s, int need, int p) {
            long behindKeeping = p * later[Math.min(s + 1, MOST_SURPLUS)] / 1000;
            long behindBreaking = s >= need ? p * later[s - need] / 1000 : 0;
            long sum = 0;
            for (int size = 1; size <= greatest; size++) {
                long value = 1000L * terms[KEEP] * size + behindKeeping;
                if (s >= need) {
                    value = Math.max(value, 1000L * terms[BREAK] * size + behindBreaking);
                }
                sum += terms[WEIGHTS + size] * value;
            }
            return all > 0 ? sum / all : 0;
        }

        /** The least size to break with what foresee() left to come behind it, or NONE. */
        int edge(int s, int need, int p) {
            if (s < need) {
                return NONE;
            }
            long behindKeeping = p * values[Math.min(s + 1, MOST_SURPLUS)] / 1000;
            long behindBreaking = p * values[s - need] / 1000;
            for (int size = 1; size <= SIZES; size++) {
                if (1000L * terms[BREAK] * size + behindBreaking > 1000L * terms[KEEP] * size + behindKeeping) {
                    return size;
                }
            }
            return NONE;
        }

        int bestEdge(int need, int rounds) {
            int best = 1;
            long most = 0;
            for (int t = 1; t <= NEVER; t++) {
                goRounds(t, need, rounds);
                if (t == 1 || gain > most) {
                    most = gain;
                    best = t;
                }
            }
            return best;
        }

        int bestNeed(int t, int rounds) {
            int best = 1;
            long most = 0;
            for (int need = 1; need <= MOST_NEED; need++) {
                goRounds(t, need, rounds);
                if (need == 1 || gainOfAll > most) {
                    most = gainOfAll;
                    best = need;
                }
            }
            return best;
        }

        /** Leaves in broke, gain and gainOfAll what the last round brought. */
        void goRounds(int t, int need, int rounds) {
            Arrays.fill(values, 0);
            values[0] = ALL;
            for (int round = 0; round < rounds; round++) {
                Arrays.fill(later, 0);
                broke = 0;
                gain = 0;
                gainOfAll = 0;
                for (int s = 0; s <= MOST_SURPLUS; s++) {
                    if (values[s] > 0) {
                        split(values[s]);
                        goOn(s, t, need);
                    }
                }
                System.arraycopy(later, 0, values, 0, values.length);
            }
            gain = Math.floorDiv(gain, MILLION);
            gainOfAll = Math.floorDiv(gainOfAll, MILLION);
        }

        private void goOn(int s, int t, int need) {
            for (int size = 1; size <= greatest; size++) {
                long part = parts[size];
                if (size >= t && s >= need) {
                    later[s - need] += part;
                    broke += part;
                    gain += part * terms[BREAK] * size;
                    gainOfAll += part * size * (terms[BREAK] - terms[HURT]);
                } else {
                    later[Math.min(s + 1, MOST_SURPLUS)] += part;
                    gain += part * terms[KEEP] * size;
                    gainOfAll += part * size * 2 * terms[KEEP];
                }
            }
        }

        private void split(long weight) {
            long rest = weight;
            for (int size = 1; size < greatest; size++) {
                parts[size] = all > 0 ? weight * terms[WEIGHTS + size] / all : 0;
                rest -= parts[size];
            }
            parts[greatest] = rest;
        }

        /** Leaves in firstGain and secondGain what k deals of a pair bring. */
        void goPair(int k, int a, int b, int need, int t, int u) {
            Arrays.fill(pairNow, 0);
            pairNow[a * SIDE + b] = ALL;
            long firstSum = 0;
            long secondSum = 0;
            for (int deal = 0; deal < k; deal++) {
                Arrays.fill(pairNext, 0);
                firstGain = 0;
                secondGain = 0;
                for (int cell = 0; cell < pairNow.length; cell++) {
                    if (pairNow[cell] > 0) {
                        split(pairNow[cell]);
                        meet(cell / SIDE, cell % SIDE, need, t, u);
                    }
                }
                firstSum += Math.floorDiv(firstGain, MILLION);
                secondSum += Math.floorDiv(secondGain, MILLION);
                System.arraycopy(pairNext, 0, pairNow, 0, pairNow.length);
            }
            firstGain = firstSum;
            secondGain = secondSum;
        }

        private void meet(int a, int b, int need, int t, int u) {
            for (int size = 1; size <= greatest; size++) {
                long part = parts[size];
                if (part == 0) {
                    continue;
                }
                boolean breaks = size >= t && a >= need;
                boolean otherBreaks = size >= u && b >= need;
                int nextA = breaks ? a - need : Math.min(a + 1, MOST_OF_PAIR);
                int nextB = otherBreaks ? b - need : Math.min(b + 1, MOST_OF_PAIR);
                pairNext[nextA * SIDE + nextB] += part;
                firstGain += part * worth(terms, breaks, otherBreaks) * size;
                secondGain += part * worth(terms, otherBreaks, breaks) * size;
            }
        }

        /** Leaves in holding, firstHold and mostHold how many couples hold, the first, that with the most. */
        void findHolds(int k, int a, int b, int need) {
            fillGains(k, a, b, need);
            holding = 0;
            firstHold = NONE;
            mostHold = NONE;
            long most = 0;
            for (int t = 1; t <= NEVER; t++) {
                for (int u = 1; u <= NEVER; u++) {
                    int couple = COUPLE * t + u;
                    if (!isHolding(t, u)) {
                        continue;
                    }
                    long together = firstGains[couple] + secondGains[couple];
                    if (holding == 0) {
                        firstHold = couple;
                    }
                    if (holding == 0 || together > most) {
                        most = together;
                        mostHold = couple;
                    }
                    holding++;
                }
            }
        }

        private void fillGains(int k, int a, int b, int need) {
            for (int t = 1; t <= NEVER; t++) {
                for (int u = 1; u <= NEVER; u++) {
                    int alike = COUPLE * leastAlike(t) + leastAlike(u);
                    int couple = COUPLE * t + u;
                    if (alike == couple) {
                        goPair(k, a, b, need, t, u);
                        firstGains[couple] = firstGain;
                        secondGains[couple] = secondGain;
                    } else {
                        firstGains[couple] = firstGains[alike];
                        secondGains[couple] = secondGains[alike];
                    }
                }
            }
        }

        /** The least t by which the same sizes that have a weight are broken: reckoning one of these is enough. */
        private int leastAlike(int t) {
            int least = t;
            while (least > 1 && terms[WEIGHTS + least - 1] == 0) {
                least--;
            }
            return least;
        }

        private boolean isHolding(int t, int u) {
            int couple = COUPLE * t + u;
            for (int other = 1; other <= NEVER; other++) {
                if (firstGains[COUPLE * other + u] > firstGains[couple]
                    || secondGains[COUPLE * t + other] > secondGains[couple]) {
                    return false;
                }
            }
            return true;
        }
    }
}
