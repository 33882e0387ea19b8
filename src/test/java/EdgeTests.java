/**
 * The document's sentences that name a boundary (too small, too large, empty, full, a wrap-around, a refused call):
 * says() names each in the document's words, shortened here and there, and the checks below it fail if that sentence
 * is broken.
 */
public final class EdgeTests {
    private static final int NONE = -1;
    private static final int NO_SIZE = -100;
    private static final int NO_NUMBER = -10000000;
    private static final int NO_WORTH = -1000000000;
    private static final int MIN = Integer.MIN_VALUE;
    private static final int MAX = Integer.MAX_VALUE;
    private static final String LAW_WORDS = "kept broken large lost size age year";
    private static final String RULE_WORDS = "okept obroken olarge olost oage lawful olawful purse";
    private static int wrong = 0;
    private static int checks = 0;
    private static int sentences = 0;
    private static String sentence = "";

    public static void main(String[] args) {
        quotients();
        draws();
        newValley();
        peopleAndSticks();
        notchesAtMost();
        terms();
        tokens();
        numbers();
        words();
        grammar();
        faultPlaces();
        lines();
        open();
        arithmetic();
        lawsAndRules();
        dealComesToNothing();
        purses();
        notice();
        marks();
        bookRoom();
        yearDraws();
        yearWithoutDeals();
        yearEnds();
        yearsBounds();
        planBounds();
        planValues();
        longerBounds();
        longerValues();
        commonEdges();
        pairEdges();
        holdsEdges();
        holdsWithoutOne();
        restsEdges();
        whomEdges();
        safeAndNames();
        annalsEdges();
        trustEdges();
        heldEdges();
        lendEdges();
        thoughtEdges();
        thoughtLeavesNothing();
        toldEdges();
        imageEdges();
        imageAgain();
        tapeEdges();
        textEdges();
        faultEdges();
        ofEdges();
        wouldEdges();
        bookEdges();
        lookEdges();
        System.out.println(sentences + " sentences, " + checks + " checks, " + wrong + " wrong");
        if (wrong != 0) {
            System.exit(1);
        }
    }

    private static void says(String words) {
        sentence = words;
        sentences++;
    }

    private static void due(String call, long got, long want) {
        checks++;
        if (got != want) {
            wrong++;
            System.out.println("\"" + sentence + "\": " + call + " answered " + got + ", due is " + want);
        }
    }

    private static void due(String call, boolean got, boolean want) {
        due(call, got ? 1 : 0, want ? 1 : 0);
    }

    private static void same(String call, NotchSticks x, String before) {
        due(call + " changes nothing", seen(x).equals(before), true);
    }

    /** What can be seen of a valley without changing it; of the BOOK its first deal and its last one. */
    private static String seen(NotchSticks x) {
        StringBuilder b = new StringBuilder();
        int state = x.state(0);
        x.state(state);
        b.append(state);
        for (int what = 0; what < 33; what++) {
            b.append(' ').append(x.look(what));
        }
        int people = x.look(0);
        for (int who = 0; who < people; who++) {
            for (int what = 0; what < 9; what++) {
                b.append(' ').append(x.of(who, what));
            }
        }
        int deals = x.look(2);
        for (int what = 0; what < 8; what++) {
            b.append(' ').append(x.book(0, what)).append(' ').append(x.book(deals - 1, what));
        }
        for (int size = 1; size <= 12; size += 2) {
            b.append(' ').append(x.would(0, 1, size, 0)).append(x.would(0, 1, size, 1)).append(x.would(0, 1, size, 2));
        }
        return b.toString();
    }

    /** The STATE that a step leaves as told: 4276115653 times 1664525 is 1 among ints. */
    private static int ahead(int after) {
        return (after - 1013904223) * (int) 4276115653L;
    }

    private static int step(int state) {
        return (int) (1664525L * state + 1013904223L);
    }

    /** The least STATE from 0 on of which the next draws of these numbers are as wanted. */
    private static int drawing(int[] of, int[] wanted) {
        for (int s = 0; s < MAX; s++) {
            int state = s;
            int i = 0;
            while (i < of.length) {
                state = step(state);
                if ((state >>> 8) % of[i] != wanted[i]) {
                    break;
                }
                i++;
            }
            if (i == of.length) {
                return s;
            }
        }
        return NONE;
    }

    private static void feedText(NotchSticks x, String s) {
        for (int i = 0; i < s.length(); i += 20) {
            int[] five = new int[5];
            for (int j = 0; j < 20; j++) {
                int c = i + j < s.length() ? s.charAt(i + j) : ' ';
                five[j / 4] = five[j / 4] << 8 | c;
            }
            x.feed(five[0], five[1], five[2], five[3], five[4]);
        }
        x.end(s.length());
    }

    private static int tell(NotchSticks x, int k, String s) {
        feedText(x, s);
        return x.text(k);
    }

    private static String times(int n, String s) {
        return s.repeat(n);
    }

    /** n people of age 20, 21 .. without a rule. */
    private static NotchSticks valley(int n) {
        NotchSticks x = new NotchSticks();
        for (int i = 0; i < n; i++) {
            x.one(20 + i, 4);
        }
        return x;
    }

    /** One who breaks always, and one who keeps always; nothing is lawful. */
    private static NotchSticks breaker() {
        NotchSticks x = valley(2);
        tell(x, 2, "break when 1=1;");
        x.stick(0, 0, 0);
        return x;
    }

    private static NotchSticks lawfulBreaker() {
        NotchSticks x = breaker();
        tell(x, 0, "may when 1=1;");
        return x;
    }

    private static void weights(NotchSticks x, int... sizesAndWeights) {
        for (int size = 1; size <= 12; size++) {
            x.set(10 + size, 0);
        }
        for (int i = 0; i + 1 < sizesAndWeights.length; i += 2) {
            x.set(10 + sizesAndWeights[i], sizesAndWeights[i + 1]);
        }
    }

    private static void quotients() {
        says("Quotients go downwards (to the lesser one), where nothing else is told.");
        NotchSticks x = new NotchSticks();
        x.set(0, 1);
        weights(x, 1, 6, 2, 1);
        due("plan: 8000 by 7", x.plan(1, 0, 9, 999, 0), 1142);
        due("plan: 999 times 1142 by 1000, 15980 by 7", x.plan(2, 0, 9, 999, 0), 2282);
        NotchSticks y = new NotchSticks();
        y.set(2, 99);
        weights(y, 1, 1, 2, 2);
        due("longer: a third of ALL", y.longer(2, 1, 2, 0), 666666667);
        due("longer: 999999999 + 6666666670 by 1000000", y.longer(2, 1, 2, 1), 7666);
        due("common: -123333333398 by 1000000", y.common(2, 1, 2), -123334);
        y.set(2, 4);
        due("pair: 7666666669 by 1000000", y.pair(1, 1, 0, 1, 2, 13, 0), 7666);
        due("pair: -4333333337 by 1000000", y.pair(1, 1, 0, 1, 2, 13, 1), -4334);
        due("pair: of the second one", y.pair(1, 0, 1, 1, 13, 2, 0), -4334);
        y.set(1, 0);
        y.set(2, 0);
        due("longer: 999999999 by 1000000", y.longer(2, 1, 2, 1), 999);
        due("pair: 999999999 by 1000000", y.pair(1, 1, 0, 1, 2, 13, 0), 999);
        due("pair: 999999999 by 1000000, the second one", y.pair(1, 1, 0, 1, 2, 13, 1), 999);
        // In the second time two thirds can't break: 3666666669; in the third it is as in the first.
        due("pair: each time for itself", y.pair(3, 1, 0, 1, 2, 13, 0), 999 + 3666 + 999);
        due("pair: each time for itself, the second one", y.pair(3, 1, 0, 1, 2, 13, 1), 999 + 3666 + 999);
        y.set(0, 0);
        y.set(2, 1);
        weights(y, 1, 1, 3, 2);
        due("common: -2000000001 by 1000000", y.common(3, 1, 2), -2001);
    }

    private static int noticedWith(int after, int notice) {
        NotchSticks x = breaker();
        x.set(5, notice);
        x.state(ahead(after));
        x.deal(0, 1, 1);
        due("state behind the draw", x.state(0), after);
        return x.book(0, 4) == 3 ? 0 : 1;
    }

    private static void draws() {
        says("There is one STATE (an int, 0 at first)");
        NotchSticks x = new NotchSticks();
        int[] some = {0, MAX, MIN, -1, 1, 0};
        for (int i = 1; i < some.length; i++) {
            due("state(" + some[i] + ")", x.state(some[i]), some[i - 1]);
        }
        says("STATE becomes 1664525 STATE + 1013904223 (ints, which wrap)");
        for (int s : new int[] {0, 1, -1, MAX, MIN, 123456789, -987654321}) {
            NotchSticks y = breaker();
            y.set(5, 999);
            y.state(s);
            y.deal(0, 1, 1);
            due("a draw with STATE " + s, y.state(0), step(s));
        }
        says("then it is its highest 24 bits (without sign) modulo m");
        due("16777215 modulo 1000 is 215, below 216", noticedWith(-1, 216), 1);
        due("215 is not below 215", noticedWith(-1, 215), 0);
        due("8388608 modulo 1000 is 608", noticedWith(MIN, 609), 1);
        due("608 is not below 608", noticedWith(MIN, 608), 0);
        due("the lowest 8 bits do not count", noticedWith(255, 1), 1);
        due("the next one does", noticedWith(256, 1), 0);
        due("1000 is 0 again", noticedWith(1000 << 8, 1), 1);
        due("999 is 999", noticedWith(999 << 8, 999), 0);
    }

    private static void newValley() {
        says("NotchSticks(): Nobody.");
        NotchSticks x = new NotchSticks();
        due("look(0)", x.look(0), 0);
        due("of(0, 0)", x.of(0, 0), NO_NUMBER);
        due("safe()", x.safe(), 0);
        due("named(0)", x.named(0), NONE);
        due("whom(0, 1)", x.whom(0, 1), NONE);
        due("deal(0, 1, 1)", x.deal(0, 1, 1), NONE - 1);
        due("would(0, 1, 1, 0)", x.would(0, 1, 1, 0), NONE);
        due("rests(0, 1, 1)", x.rests(0, 1, 1), NONE);
        due("held(0, 0)", x.held(0, 0), NO_NUMBER);
        due("told(0, 1, 0)", x.told(0, 1, 0), NO_SIZE);
        due("lend(0, 1, 1, 0)", x.lend(0, 1, 1, 0), false);
        due("stick(0, 1, 1)", x.stick(0, 1, 1), false);
        due("book(0, 0)", x.book(0, 0), NONE);
        due("annals(0, 0)", x.annals(0, 0), 0);
        due("trust(0, 0)", x.trust(0, 0), 0);
        due("thought(30, 1, 0)", x.thought(30, 1, 0), 0);
        due("thought(1, NONE, 0)", x.thought(1, NONE, 0), 0);
        due("years(1)", x.years(1), 0);
        due("a year without anybody goes by", x.look(1), 1);
        says("NONE = -1");
        due("NONE", NotchSticks.NONE, -1);
        says("YEAR 0 at first");
        due("look(1)", new NotchSticks().look(1), 0);
        says("each has a WEIGHT 0 .. 99 (size 1: 1, the others 0 at first)");
        for (int size = 1; size <= 12; size++) {
            due("weight of " + size, new NotchSticks().look(20 + size), size == 1 ? 1 : 0);
        }
        due("all weights", new NotchSticks().look(3), 1);
        says("KEEP 3, BREAK 5, HURT 4, BOTH 1; FINE 6. NOTICE (1000), EXILE (1), CUT (0: never), EACH (4); THE LAW IN FORCE (0 at first)");
        int[] first = {3, 5, 4, 1, 6, 1000, 1, 0, 4, 0};
        for (int k = 0; k < first.length; k++) {
            due("set() " + k, new NotchSticks().look(10 + k), first[k]);
        }
    }

    private static void peopleAndSticks() {
        says("PEOPLE 0 .. 11 as they come; NONE if there are twelve");
        NotchSticks x = new NotchSticks();
        for (int i = 0; i < 12; i++) {
            due("one " + i, x.one(i, 4), i);
            due("of the next one", x.of(i + 1, 1), NO_NUMBER);
        }
        String before = seen(x);
        due("the 13th", x.one(5, 4), NONE);
        same("the 13th", x, before);
        due("stick of the twelfth", x.stick(11, 1, 50), true);
        due("stick of the 13th", x.stick(12, 1, 50), false);
        says("AGE 0 .. 99, a RULE 0 .. 3 or none (4); NONE if one can't be");
        NotchSticks y = new NotchSticks();
        int[][] refused = {{-1, 0}, {100, 0}, {0, -1}, {0, 5}, {MIN, 4}, {MAX, 4}, {50, MIN}, {50, MAX}};
        for (int[] one : refused) {
            due("one(" + one[0] + ", " + one[1] + ")", y.one(one[0], one[1]), NONE);
            due("nobody came", y.look(0), 0);
        }
        due("one(0, 0)", y.one(0, 0), 0);
        due("one(99, 4)", y.one(99, 4), 1);
        due("one(0, 3)", y.one(0, 3), 2);
        due("age of 0", y.of(0, 1), 0);
        due("age of 1", y.of(1, 1), 99);
        due("rule of 0", y.of(0, 0), 0);
        due("rule of 1", y.of(1, 0), 4);
        due("rule of 2", y.of(2, 0), 3);
        says("on the STICK: KEPT and BROKEN, LARGE and LOST, all 0 at first; a PURSE (0), OUT (0: not out), UNLAWFUL (0)");
        for (int what = 2; what < 9; what++) {
            due("of(1, " + what + ")", y.of(1, what), 0);
        }
        says("stick: true; false if one can't be, or another what");
        int[] most = {4, 99, 9999, 9999, 9999, 9999, 9};
        for (int what = 0; what < 7; what++) {
            due("the least of " + what, y.stick(0, what, 0), true);
            due("is it", y.of(0, what), 0);
            due("the most of " + what, y.stick(0, what, most[what]), true);
            due("is it", y.of(0, what), most[what]);
            for (int v : new int[] {-1, most[what] + 1, MIN, MAX}) {
                due("stick(0, " + what + ", " + v + ")", y.stick(0, what, v), false);
                due("it stays", y.of(0, what), most[what]);
            }
        }
        before = seen(y);
        for (int what : new int[] {-1, 7, 8, 9, MIN, MAX}) {
            due("stick(0, " + what + ", 1)", y.stick(0, what, 1), false);
        }
        for (int who : new int[] {-1, 3, 12, MIN, MAX}) {
            due("stick(" + who + ", 1, 1)", y.stick(who, 1, 1), false);
        }
        same("a refused stick()", y, before);
    }

    private static void notchesAtMost() {
        says("KEPT and BROKEN, LARGE and LOST (sizes of these added), 9999 at most");
        NotchSticks x = lawfulBreaker();
        x.stick(1, 2, 9998);
        x.stick(1, 4, 9986);
        x.stick(0, 3, 9998);
        x.stick(0, 5, 9986);
        int[][] want = {{9999, 9998}, {9999, 9999}, {9999, 9999}};
        for (int[] w : want) {
            x.deal(0, 1, 12);
            due("KEPT", x.of(1, 2), w[0]);
            due("LARGE", x.of(1, 4), w[1]);
            due("BROKEN", x.of(0, 3), w[0]);
            due("LOST", x.of(0, 5), w[1]);
        }
        x.stick(1, 4, 9999);
        x.stick(0, 5, 9999);
        x.deal(1, 0, 1);
        due("LARGE with size 1", x.of(1, 4), 9999);
        due("LOST with size 1", x.of(0, 5), 9999);
        due("the deals are in the BOOK all the same", x.look(2), 4);
        NotchSticks y = breaker();
        y.set(5, 0);
        y.stick(0, 2, 9999);
        y.stick(0, 4, 9998);
        y.deal(0, 1, 3);
        due("KEPT of who was not noticed", y.of(0, 2), 9999);
        due("LARGE of who was not noticed", y.of(0, 4), 9999);
    }

    private static void terms() {
        says("WORTHS 0 .. 99; FINE; NOTICE 0 .. 1000, EXILE 0 .. 9, CUT 0 .. 99, EACH 0 .. 20; LAWS 0, 1; WEIGHT 0 .. 99");
        int[] most = {99, 99, 99, 99, 99, 1000, 9, 99, 20, 1, -1, 99, 99, 99, 99, 99, 99, 99, 99, 99, 99, 99, 99};
        NotchSticks x = new NotchSticks();
        for (int what = 0; what < most.length; what++) {
            if (what == 10) {
                continue;
            }
            due("set(" + what + ", 0)", x.set(what, 0), true);
            due("is it", x.look(10 + what), 0);
            due("set(" + what + ", most)", x.set(what, most[what]), true);
            for (int v : new int[] {-1, most[what] + 1, MIN, MAX}) {
                due("set(" + what + ", " + v + ")", x.set(what, v), false);
            }
            due("is the most", x.look(10 + what), most[what]);
        }
        says("set: false if one can't be, or another what");
        String before = seen(x);
        for (int what : new int[] {-1, 10, 23, 24, MIN, MAX}) {
            for (int v = -1; v < 2; v++) {
                due("set(" + what + ", " + v + ")", x.set(what, v), false);
            }
        }
        same("a refused set()", x, before);
    }

    private static void faulty(int k, String s, int fault, int place) {
        NotchSticks x = new NotchSticks();
        int lines = tell(x, k, s);
        due("text " + k + " '" + s + "' answers NONE", lines == NONE, fault != 0);
        due("text " + k + " '" + s + "' fault", x.fault(0), fault);
        due("text " + k + " '" + s + "' place", x.fault(1), place);
    }

    private static void tokens() {
        says("; + - * / ( ) < = > . Blanks (32, 10) between.");
        for (int c = 0; c < 256; c++) {
            boolean isBlank = c == 32 || c == 10;
            faulty(0, "may when 1=1;" + (char) c, isBlank ? 0 : 1, isBlank ? NONE : 13);
            faulty(0, (char) c + "may when 1=1;", isBlank ? 0 : 1, isBlank ? NONE : 0);
            betweenNumbers((char) c);
        }
        faulty(0, "may\n when \n\n1\n=  1 ;\n", 0, NONE);
        faulty(0, "may when1=1;may when1=1;", 0, NONE);
        faulty(0, "may when 1=1or 1=1and not(1=1);", 0, NONE);
        says("letters as many as stand together are KEYWORDS (those told for such a TEXT) or none");
        faulty(0, "maywhen 1=1;", 1, 0);
        faulty(0, "may when 1=1 andnot 1=1;", 1, 13);
        faulty(0, "may when sizeage=1;", 1, 9);
        faulty(0, "ma y when 1=1;", 1, 0);
        for (String s : new String[] {"May", "maY", "MAY", "mayA", "mayZ", "Zmay", "mayz", "amay", "ma", "mayy"}) {
            faulty(0, s + " when 1=1;", 1, 0);
        }
        faulty(0, "may Wheny 1=1;", 1, 4);
        faulty(0, "may when Size=1;", 1, 9);
        says("a TEXT of 400 TOKENS");
        faulty(0, times(400, ";"), 1, 0);
        faulty(0, times(399, "(") + "a", 1, 0);
        faulty(0, "may when 1=1" + times(388, "+"), 1, 13);
    }

    /** What a byte is between two numbers: a sign, a digit, a blank, or what can't stand there. */
    private static void betweenNumbers(char c) {
        String s = "may when 1" + c + "1<2;";
        if ("+-*/0123456789".indexOf(c) >= 0) {
            faulty(0, s, 0, NONE);
        } else if ("<=>".indexOf(c) >= 0) {
            faulty(0, s, 1, 12);
        } else {
            faulty(0, s, 1, c == ' ' || c == '\n' ? 11 : 10);
        }
    }

    private static void numbers() {
        says("digits as many as stand together NUMBERS of 1 to 4 digits or none");
        for (String s : new String[] {"0", "9", "10", "99", "100", "999", "1000", "9999", "0000", "0001"}) {
            faulty(0, "may when " + s + "=1;", 0, NONE);
            faulty(0, "may when 1=1*" + s + ";", 0, NONE);
        }
        for (String s : new String[] {"10000", "99999", "00000", "00001", "123456", "4294967297", "00000000000"}) {
            faulty(0, "may when " + s + "=1;", 1, 9);
            faulty(0, "may when 1=1*" + s + ";", 1, 13);
        }
        faulty(0, "may when 9999 9=1;", 1, 14);
        for (String s : new String[] {"9999=9998+1", "0009=9", "0000=0", "1000-1=999", "9999>9998", "0010=10"}) {
            due(s, isSo(s), 1);
        }
    }

    /** Whether B is so, by a law of one line, of one of age 40, kept 7, broken 2, large 30, lost 9 for size 5. */
    private static int isSo(String b) {
        NotchSticks x = new NotchSticks();
        x.one(40, 4);
        x.one(50, 4);
        x.stick(0, 2, 7);
        x.stick(0, 3, 2);
        x.stick(0, 4, 30);
        x.stick(0, 5, 9);
        due("one line", tell(x, 0, "may when " + b + ";"), 1);
        return x.would(0, 1, 5, 2);
    }

    private static void words() {
        says("kept | broken | large | lost | size | age | year in both, and in RULES also okept .. purse");
        for (String word : LAW_WORDS.split(" ")) {
            for (int k = 0; k < 6; k++) {
                faulty(k, (k < 2 ? "may" : "deal") + " when " + word + "=1;", 0, NONE);
            }
        }
        for (String word : RULE_WORDS.split(" ")) {
            for (int k = 0; k < 6; k++) {
                faulty(k, (k < 2 ? "may when 1=" : "break when 1=") + word + ";", k < 2 ? 1 : 0, k < 2 ? 11 : NONE);
            }
        }
        for (String word : new String[] {"rule", "out", "unlawful", "osize", "oyear", "opurse", "keep", "oout", "x"}) {
            faulty(0, "may when " + word + "=1;", 1, 9);
            faulty(2, "deal when " + word + "=1;", 1, 10);
        }
        for (String word : "may when or and not deal break".split(" ")) {
            faulty(2, "deal when 1=1+" + word + ";", 1, 14);
        }
        says("LAWS = {may when B ;}. RULES = {(deal | break) when B ;}");
        for (int k = 0; k < 6; k++) {
            faulty(k, "", 0, NONE);
            faulty(k, " \n", 0, NONE);
            faulty(k, "may when 1=1;", k < 2 ? 0 : 1, k < 2 ? NONE : 0);
            faulty(k, "deal when 1=1;", k < 2 ? 1 : 0, k < 2 ? 0 : NONE);
            faulty(k, "break when 1=1;", k < 2 ? 1 : 0, k < 2 ? 0 : NONE);
        }
    }

    private static void grammar() {
        says("B = A {or A}. A = C {and C}. C = E (< | = | >) E | not C | ( B ). E = T {(+ | -) T}. T = U {* U | / NUMBER}.");
        faulty(0, "may 1=1;", 1, 4);
        faulty(0, "may when ;", 1, 9);
        faulty(0, "when 1=1;", 1, 0);
        faulty(0, ";", 1, 0);
        faulty(0, "may when 1=1;;", 1, 13);
        faulty(0, "may when or 1=1;", 1, 9);
        faulty(0, "may when 1=1 or;", 1, 15);
        faulty(0, "may when 1=1 or or 1=1;", 1, 16);
        faulty(0, "may when 1=1 and;", 1, 16);
        faulty(0, "may when and 1=1;", 1, 9);
        faulty(0, "may when 1=1 1=1;", 1, 13);
        faulty(0, "may when 1=1 (1=1);", 1, 13);
        faulty(0, "may when 1=1 not 1=1;", 1, 13);
        faulty(0, "may when 1=1 may when 1=1;", 1, 13);
        faulty(0, "may when 1;", 1, 10);
        faulty(0, "may when =1;", 1, 9);
        faulty(0, "may when 1=;", 1, 11);
        faulty(0, "may when 1==1;", 1, 11);
        faulty(0, "may when 1<=1;", 1, 11);
        faulty(0, "may when 1=1<2;", 1, 12);
        faulty(0, "may when not;", 1, 12);
        faulty(0, "may when 1=not 1;", 1, 11);
        faulty(0, "may when ();", 1, 10);
        faulty(0, "may when (1=1;", 1, 13);
        faulty(0, "may when 1=1);", 1, 12);
        faulty(0, "may when (1=1));", 1, 14);
        faulty(0, "may when (1)=1;", 1, 11);
        faulty(0, "may when 1=(1);", 1, 11);
        faulty(0, "may when (1+1=2) and 1=1;", 0, NONE);
        faulty(0, "may when (1=1)+1=1;", 1, 14);
        faulty(0, "may when -1=1;", 1, 9);
        faulty(0, "may when 1=-1;", 1, 11);
        faulty(0, "may when 1+=1;", 1, 11);
        faulty(0, "may when 1++1=1;", 1, 11);
        faulty(0, "may when 1*/2=1;", 1, 11);
        faulty(0, "may when 1*;", 1, 11);
        faulty(0, "may when 1/;", 1, 11);
        faulty(0, "may when *1=1;", 1, 9);
        for (String word : LAW_WORDS.split(" ")) {
            faulty(0, "may when 1/" + word + "=1;", 1, 11);
            faulty(0, "may when 1*" + word + "/1*2/3=1;", 0, NONE);
        }
        faulty(2, "deal when 1/purse=1;", 1, 12);
        faulty(0, "may when 1/(2)=1;", 1, 11);
    }

    private static void faultPlaces() {
        says("1 what can't stand there (the end: the text's length)");
        String whole = "may when not(1<2+3*4/5);";
        int[] tokenEnds = {3, 8, 12, 13, 14, 15, 16, 17, 18, 19, 20, 21, 22, 23};
        for (int n : tokenEnds) {
            faulty(0, whole.substring(0, n), 1, n);
            faulty(0, whole.substring(0, n) + " \n ", 1, n + 3);
        }
        faulty(0, whole, 0, NONE);
        faulty(0, "may when 1=" + times(194, "1+") + "1", 1, 400);
        faulty(0, "may when 1=" + times(194, "1+") + "+", 1, 399);
        says("2 (at the NUMBER) a part by 0");
        faulty(0, "may when 1/0=1;", 2, 11);
        faulty(0, "may when 1/00=1;", 2, 11);
        faulty(0, "may when 1/0000=1;", 2, 11);
        faulty(0, "may when 1/\n 0=1;", 2, 13);
        faulty(0, "may when 1=4/2/0", 2, 15);
        faulty(0, "may when 1/1=1 or 2=1*3/0;", 2, 24);
        faulty(0, "may when 1/0", 2, 11);
        faulty(0, "may when 1/1=0/9;", 0, NONE);
        faulty(0, "may when 1/0001=0*0;", 0, NONE);
        says("FAULTS, the first by its place, at one place the least");
        faulty(0, "may when 1/0=1 x", 2, 11);
        faulty(0, "may when 1=1 x 1/0=1;", 1, 13);
        faulty(0, "may when 1/0=1;" + times(16, "may when 1=1;"), 2, 11);
        faulty(0, "may when 1/00000=1;", 1, 11);
        faulty(0, times(16, "may when 1=1;") + "deal when 1=1;", 1, 208);
        faulty(2, times(16, "deal when 1=1;") + "may when 1=1;", 1, 224);
        faulty(0, "may when " + times(8, "(") + "1/0=1 and (1=1" + times(9, ")") + ";", 2, 19);
        faulty(0, "may when " + times(9, "(") + "1/0=1" + times(9, ")") + ";", 3, 17);
        faulty(0, "may when " + times(8, "(") + "1=(", 1, 19);
        faulty(0, "may when " + times(8, "(") + "1=1 not", 1, 21);
        faulty(0, "may when " + times(8, "(") + "1=1(", 1, 20);
    }

    private static void lines() {
        says("3 (at its KEYWORD) the 17th line");
        String line = "may when 1=1;";
        for (int n : new int[] {0, 1, 2, 15, 16}) {
            due(n + " lines", tell(new NotchSticks(), 0, times(n, line)), n);
        }
        faulty(0, times(17, line), 3, 208);
        faulty(0, times(16, line) + "may", 3, 208);
        faulty(0, times(16, line) + " \nmay when 1=1", 3, 210);
        faulty(0, times(16, line) + "\n", 0, NONE);
        faulty(0, times(18, line), 3, 208);
        faulty(1, times(17, line), 3, 208);
        for (int k = 2; k < 6; k++) {
            faulty(k, times(8, "deal when 1=1;break when 1=1;"), 0, NONE);
            faulty(k, times(8, "deal when 1=1;break when 1=1;") + "deal when 1=1;", 3, 232);
            faulty(k, times(8, "deal when 1=1;break when 1=1;") + "break", 3, 232);
        }
        NotchSticks x = valley(2);
        tell(x, 0, times(15, "may when 1=2;") + "may when size=9;");
        due("the 16th line counts", x.would(0, 1, 9, 2), 1);
        due("the others do not", x.would(0, 1, 8, 2), 0);
        tell(x, 2, times(15, "break when 1=2;") + "deal when size=9;");
        x.stick(0, 0, 0);
        due("the 16th line of a rule counts", x.would(0, 1, 9, 0), 1);
        due("it is a deal line", x.would(0, 1, 8, 0), 0);
    }

    private static void open() {
        says("3 (at it) the 9th ( or not that is open");
        String so = "1=1";
        faulty(0, "may when " + times(8, "(") + so + times(8, ")") + ";", 0, NONE);
        faulty(0, "may when " + times(9, "(") + so + times(9, ")") + ";", 3, 17);
        faulty(0, "may when " + times(9, "("), 3, 17);
        faulty(0, "may when " + times(8, "("), 1, 17);
        faulty(0, "may when " + times(8, "not ") + so + ";", 0, NONE);
        faulty(0, "may when " + times(9, "not ") + so + ";", 3, 41);
        faulty(0, "may when " + times(4, "(not ") + so + times(4, ")") + ";", 0, NONE);
        faulty(0, "may when " + times(4, "not(") + "(" + so + times(5, ")") + ";", 3, 25);
        faulty(0, "may when " + times(4, "not(") + "not " + so + times(4, ")") + ";", 3, 25);
        faulty(0, "may when " + times(8, "(") + so + " and not " + so + times(8, ")") + ";", 3, 25);
        faulty(0, "may when " + times(8, "(") + so + ") and (" + so + times(8, ")") + ";", 0, NONE);
        faulty(0, "may when " + times(8, "(") + so + ") and ((" + so + times(9, ")") + ";", 3, 27);
        faulty(0, "may when (1=1)" + times(12, " and (1=1)") + ";", 0, NONE);
        faulty(0, "may when not 1=1" + times(12, " or not 1=1") + ";", 0, NONE);
        faulty(0, "may when " + times(7, "(") + "not 1=1 and not (1=1)", 3, 32);
        faulty(0, "may when " + times(8, "not ") + "1=1 and " + times(8, "not ") + "1=1;", 0, NONE);
        String eight = times(8, "(") + so + times(8, ")");
        faulty(0, "may when " + eight + " or " + eight + ";may when " + eight + ";", 0, NONE);
        faulty(2, "deal when " + eight + ";break when (" + eight + ");", 3, 49);
        due("eight nots are none", isSo(times(8, "not ") + "1=1"), 1);
        due("seven nots are one", isSo(times(7, "not ") + "1=1"), 0);
        due("what is open deepest counts", isSo("(1=1 and (1=1 and (1=1 and (1=1 and (1=1 and (1=1 and (1=1 and (1=2))))))))"), 0);
        due("with an or and an and around each", isSo(times(8, "1=2 or 1=1 and (") + "1=2 or 3=1+1*2 and 7<1+2*4" + times(8, ")")), 1);
        due("the innermost counts still", isSo(times(8, "1=2 or 1=1 and (") + "1=2 or 3=1+1*2 and 9<1+2*4" + times(8, ")")), 0);
        due("sums there too", isSo(times(8, "(1=1 and ") + "1+2*3=8-1*1" + times(8, ")")), 1);
    }

    private static void arithmetic() {
        says("Ints, which wrap");
        due("999700029999 is -1027349969", isSo("9999*9999*9999=0-9999*9999*10-2755*9999-2714"), 1);
        due("4294967296 is 0", isSo("4096*4096*256=0"), 1);
        due("the most is 2147483647", isSo("4096*4096*128-1>0"), 1);
        due("one more is the least", isSo("4096*4096*128<0"), 1);
        due("one less than the least is the most", isSo("0-4096*4096*128-1>0"), 1);
        due("the least less itself", isSo("4096*4096*128-4096*4096*128=0"), 1);
        due("the least by 1", isSo("4096*4096*128/1<0"), 1);
        says("/ goes towards 0");
        NotchSticks x = valley(2);
        x.stick(0, 0, 0);
        x.stick(1, 2, 9);
        x.lend(1, 0, 1, 7);
        for (String b : new String[] {"purse/2=0-3", "purse/7=0-1", "purse/8=0", "purse/9999=0", "purse/6*6=0-6"}) {
            tell(x, 2, "break when " + b + ";");
            due("-7: " + b, x.would(0, 1, 1, 1), 1);
        }
        due("7 by 2", isSo("kept/2=3"), 1);
        due("7 by 8", isSo("kept/8=0"), 1);
        due("0 by 9", isSo("0/9=0"), 1);
        says("E = T {(+ | -) T}. T = U {* U | / NUMBER} from the left");
        due("10-3-2", isSo("10-3-2=5"), 1);
        due("10-3+2", isSo("10-3+2=9"), 1);
        due("100/7/2", isSo("100/7/2=7"), 1);
        due("7/2*2", isSo("7/2*2=6"), 1);
        due("2*7/2", isSo("2*7/2=7"), 1);
        due("2+3*4", isSo("2+3*4=14"), 1);
        due("20-7/2*3-1", isSo("20-7/2*3-1=10"), 1);
        says("C = E (< | = | >) E");
        int[][] pairs = {{1, 2}, {2, 2}, {2, 1}};
        for (int[] p : pairs) {
            due(p[0] + "<" + p[1], isSo(p[0] + "<" + p[1]), so(p[0] < p[1]));
            due(p[0] + "=" + p[1], isSo(p[0] + "=" + p[1]), so(p[0] == p[1]));
            due(p[0] + ">" + p[1], isSo(p[0] + ">" + p[1]), so(p[0] > p[1]));
        }
        due("< and", isSo("1<2 and 1=1"), 1);
        due("> and", isSo("2>1 and 1=1"), 1);
        due("not <", isSo("not 1<2"), 0);
        due("not >", isSo("not 2>1"), 0);
        due("not =", isSo("not 1=1"), 0);
        says("B = A {or A}. A = C {and C}.");
        for (int bits = 0; bits < 8; bits++) {
            String a = "1=" + (bits & 1);
            String b = "2=" + (bits & 2);
            String c = "4=" + (bits & 4);
            boolean p = (bits & 1) != 0;
            boolean q = (bits & 2) != 0;
            boolean r = (bits & 4) != 0;
            due(bits + " a or b and c", isSo(a + " or " + b + " and " + c), so(p || q && r));
            due(bits + " a and b or c", isSo(a + " and " + b + " or " + c), so(p && q || r));
            due(bits + " (a or b) and c", isSo("(" + a + " or " + b + ") and " + c), so((p || q) && r));
            due(bits + " not a and b or c", isSo("not " + a + " and " + b + " or " + c), so(!p && q || r));
            due(bits + " not (a or b) or c", isSo("not (" + a + " or " + b + ") or " + c), so(!(p || q) || r));
        }
    }

    private static int so(boolean b) {
        return b ? 1 : 0;
    }

    private static void lawsAndRules() {
        says("LAWS 0, 1 are TEXTS (empty at first): LAWFUL, if B of some line of THE LAW IN FORCE is so");
        NotchSticks x = valley(3);
        for (int law = 0; law < 2; law++) {
            x.set(9, law);
            for (int size = 1; size <= 12; size++) {
                due("an empty law " + law, x.would(0, 1, size, 2), 0);
            }
        }
        tell(x, 0, "may when size<2;may when size>11;");
        tell(x, 1, "may when size=2;");
        for (int law = 0; law < 2; law++) {
            x.set(9, law);
            due("size 1 by law " + law, x.would(0, 1, 1, 2), law == 0 ? 1 : 0);
            due("size 2 by law " + law, x.would(0, 1, 2, 2), law);
            due("size 11 by law " + law, x.would(0, 1, 11, 2), 0);
            due("size 12 by law " + law, x.would(0, 1, 12, 2), law == 0 ? 1 : 0);
        }
        says("RULES 0 .. 3 (texts 2 .. 5) are TEXTS (empty at first)");
        for (int rule = 0; rule < 5; rule++) {
            x.stick(0, 0, rule);
            due("an empty rule " + rule + " deals", x.would(0, 1, 1, 0), 1);
            due("an empty rule " + rule + " keeps", x.would(0, 1, 1, 1), 0);
        }
        for (int rule = 0; rule < 4; rule++) {
            tell(x, 2 + rule, "break when size=" + (rule + 1) + ";deal when size=" + (rule + 2) + ";");
        }
        for (int rule = 0; rule < 5; rule++) {
            x.stick(0, 0, rule);
            for (int size = 1; size < 7; size++) {
                due("rule " + rule + " deals", x.would(0, 1, size, 0), so(rule == 4 || size == rule + 2));
                due("rule " + rule + " breaks", x.would(0, 1, size, 1), so(rule < 4 && size == rule + 1));
            }
        }
        wordsHave();
        says("one DEALS with another one, if there is no deal line, or B of some is so; he BREAKS, if B of some break line is so");
        x.stick(0, 0, 0);
        tell(x, 2, "break when 1=2;break when size=3;");
        due("no deal line", x.would(0, 1, 1, 0), 1);
        due("some break line", x.would(0, 1, 3, 1), 1);
        due("no break line is so", x.would(0, 1, 1, 1), 0);
        tell(x, 2, "deal when 1=2;");
        due("a deal line that is not so", x.would(0, 1, 1, 0), 0);
        due("no break line", x.would(0, 1, 1, 1), 0);
        tell(x, 2, "deal when 1=2;break when 1=1;deal when okept=0;");
        due("the last deal line", x.would(0, 1, 1, 0), 1);
        x.stick(1, 2, 1);
        due("is of the other one", x.would(0, 1, 1, 0), 0);
        due("and not of a third one", x.would(0, 2, 1, 0), 1);
        says("lawful, olawful: 1, if a break of that size is LAWFUL for him, for the other one");
        x.set(9, 0);
        tell(x, 0, "may when age=21 and size=5;");
        tell(x, 2, "break when lawful=1;deal when lawful=0;");
        x.stick(1, 0, 0);
        due("lawful of 0", x.would(0, 1, 5, 1), 0);
        due("lawful of 0 is 0", x.would(0, 1, 5, 0), 1);
        due("lawful of 1", x.would(1, 0, 5, 1), 1);
        due("of another size", x.would(1, 0, 6, 1), 0);
        tell(x, 2, "break when olawful=1;deal when olawful=0;");
        due("olawful for 0", x.would(0, 1, 5, 1), 1);
        due("olawful for 1", x.would(1, 0, 5, 1), 0);
        due("olawful for 1 is 0", x.would(1, 0, 5, 0), 1);
    }

    /** Each word has its own number, of each of both: the most that can be. */
    private static void wordsHave() {
        says("kept .. lost, age of his own, okept .. olost, oage of the other one's; that size, YEAR; purse");
        NotchSticks x = valley(3);
        x.stick(0, 0, 3);
        int[] own = {9999, 9998, 9997, 9996};
        int[] others = {9995, 9994, 9993, 9992};
        for (int i = 0; i < 4; i++) {
            x.stick(0, 2 + i, own[i]);
            x.stick(1, 2 + i, others[i]);
        }
        x.stick(0, 1, 99);
        x.stick(1, 1, 98);
        x.set(8, 0);
        x.years(1);
        x.stick(2, 2, 1);
        x.stick(1, 2, 9994);
        x.lend(2, 1, 1, 9999);
        x.stick(0, 2, 9998);
        x.stick(2, 2, 1);
        x.lend(2, 0, 1, 17);
        String[] so = {"kept=9999", "broken=9998", "large=9997", "lost=9996", "age=99", "size=12", "year=1", "okept=9995",
            "obroken=9994", "olarge=9993", "olost=9992", "oage=99", "purse=0-17", "lawful=0", "olawful=0"};
        for (String b : so) {
            tell(x, 5, "break when " + b + ";");
            due(b, x.would(0, 1, 12, 1), 1);
        }
        for (int i = 0; i < 7; i++) {
            tell(x, 0, "may when " + so[i] + ";");
            due("by law " + so[i], x.would(0, 1, 12, 2), 1);
        }
    }

    private static void dealComesToNothing() {
        says("It comes to nothing, if one is OUT (above 0) or does not DEAL.");
        for (int who = 0; who < 2; who++) {
            for (int out : new int[] {1, 9}) {
                NotchSticks x = breaker();
                x.set(5, 500);
                x.stick(who, 6, out);
                String before = seen(x);
                due("out " + out, x.deal(0, 1, 3), NONE);
                same("a deal with who is out", x, before);
                x.stick(who, 6, 0);
                due("out no more", x.deal(0, 1, 3), 0);
            }
            NotchSticks x = breaker();
            x.set(5, 500);
            tell(x, 5, "deal when size>3;");
            x.stick(who, 0, 3);
            String before = seen(x);
            due("one does not deal", x.deal(0, 1, 3), NONE);
            due("nor the other way round", x.deal(1, 0, 3), NONE);
            same("a deal with who does not deal", x, before);
            due("of size 4 he does", x.deal(0, 1, 4), 0);
        }
        says("deal: NONE - 1, and nothing is done, if one can't be (the same)");
        NotchSticks y = breaker();
        y.set(5, 500);
        due("one that can be", y.deal(0, 1, 3), 0);
        String before = seen(y);
        int[][] refused = {{0, 0, 1}, {1, 1, 1}, {0, 2, 1}, {2, 0, 1}, {-1, 0, 1}, {0, -1, 1}, {0, 1, 0}, {0, 1, 13},
            {0, 1, -1}, {0, 1, MIN}, {0, 1, MAX}, {MIN, 1, 1}, {0, MAX, 1}, {2, 2, 1}};
        for (int[] r : refused) {
            due("deal(" + r[0] + ", " + r[1] + ", " + r[2] + ")", y.deal(r[0], r[1], r[2]), -2);
        }
        same("a refused deal()", y, before);
        y.stick(0, 0, 4);
        y.stick(0, 6, 0);
        due("size 1", y.deal(0, 1, 1), 1);
        due("size 12", y.deal(1, 0, 12), 2);
        y.stick(0, 6, 3);
        due("what can't be goes ahead of who is out", y.deal(0, 1, 13), -2);
    }

    /** What comes to both purses for size, with KEEP, BREAK, HURT, BOTH as told; nothing is unlawful. */
    private static void pursesBehind(boolean breaks, boolean otherBreaks, int[] worths, int size, int[] want) {
        NotchSticks x = valley(2);
        tell(x, 0, "may when 1=1;");
        tell(x, 2, "break when 1=1;");
        x.stick(0, 0, breaks ? 0 : 4);
        x.stick(1, 0, otherBreaks ? 0 : 4);
        for (int i = 0; i < 4; i++) {
            x.set(i, worths[i]);
        }
        due("in the book", x.deal(0, 1, size), 0);
        due("purse of a", x.of(0, 7), want[0]);
        due("purse of b", x.of(1, 7), want[1]);
    }

    private static void purses() {
        int[][] worths = {{3, 5, 4, 1}, {99, 98, 97, 96}, {0, 0, 0, 0}, {0, 99, 0, 99}, {99, 0, 99, 0}};
        says("both keep: KEEP times size for each");
        for (int[] w : worths) {
            pursesBehind(false, false, w, 1, new int[] {w[0], w[0]});
            pursesBehind(false, false, w, 12, new int[] {12 * w[0], 12 * w[0]});
        }
        says("one breaks: BREAK times size for him, HURT times size less for the other one");
        for (int[] w : worths) {
            pursesBehind(true, false, w, 1, new int[] {w[1], -w[2]});
            pursesBehind(true, false, w, 12, new int[] {12 * w[1], -12 * w[2]});
            pursesBehind(false, true, w, 1, new int[] {-w[2], w[1]});
            pursesBehind(false, true, w, 12, new int[] {-12 * w[2], 12 * w[1]});
        }
        says("both: BOTH times size less for each");
        for (int[] w : worths) {
            pursesBehind(true, true, w, 1, new int[] {-w[3], -w[3]});
            pursesBehind(true, true, w, 12, new int[] {-12 * w[3], -12 * w[3]});
        }
    }

    private static void notice() {
        says("with NOTICE below 1000 a DRAW of 1000: it is noticed, if it is below NOTICE");
        int[][] cases = {{0, 0, 0}, {0, 999, 0}, {1, 0, 1}, {1, 1, 0}, {500, 499, 1}, {500, 500, 0}, {999, 998, 1}, {999, 999, 0}};
        for (int[] c : cases) {
            due("NOTICE " + c[0] + ", drawn " + c[1], noticedWith(c[1] << 8, c[0]), c[2]);
        }
        says("(always with 1000)");
        NotchSticks x = breaker();
        x.state(ahead(999 << 8));
        x.deal(0, 1, 1);
        due("noticed", x.book(0, 4), 2);
        due("without a DRAW", x.state(0), ahead(999 << 8));
        says("Then a, then b: who breaks: a DRAW");
        for (int first = 0; first < 2; first++) {
            NotchSticks y = valley(2);
            tell(y, 2, "break when 1=1;");
            y.stick(0, 0, 0);
            y.stick(1, 0, 0);
            y.set(5, 500);
            int s = drawing(new int[] {1000, 1000}, first == 0 ? new int[] {499, 500} : new int[] {500, 499});
            y.state(s);
            y.deal(1, 0, 2);
            due("a's draw is the first", y.book(0, 4), first == 0 ? 2 : 3);
            due("b's draw is the second", y.book(0, 5), first == 0 ? 3 : 2);
            due("two draws", y.state(0), step(step(s)));
        }
        NotchSticks z = breaker();
        z.set(5, 500);
        z.state(77);
        z.deal(1, 0, 2);
        due("who keeps draws nothing", z.state(77), step(77));
        z.stick(0, 6, 0);
        z.stick(0, 0, 4);
        z.deal(0, 1, 2);
        due("both keep without a draw", z.state(0), 77);
    }

    private static void marksAre(String call, NotchSticks x, int... keptToUnlawful) {
        for (int what = 2; what < 9; what++) {
            due(call + ", of(0, " + what + ")", x.of(0, what), keptToUnlawful[what - 2]);
        }
    }

    private static NotchSticks marked(NotchSticks x) {
        for (int what = 2; what < 6; what++) {
            x.stick(0, what, 10 * what);
        }
        return x;
    }

    private static void marks() {
        says("who keeps: KEPT is one more, LARGE size more");
        NotchSticks keeper = marked(valley(2));
        keeper.deal(0, 1, 7);
        marksAre("kept", keeper, 21, 30, 47, 50, 0, 21, 0);
        says("noticed and LAWFUL: BROKEN one more, LOST size more");
        NotchSticks lawful = marked(lawfulBreaker());
        lawful.deal(1, 0, 7);
        marksAre("lawful", lawful, 20, 31, 40, 57, 0, 35, 0);
        due("in the book", lawful.book(0, 5), 1);
        says("noticed and not LAWFUL: UNLAWFUL one more, OUT is EXILE, PURSE FINE times size less");
        for (int exile = 0; exile < 10; exile++) {
            NotchSticks x = marked(breaker());
            x.set(6, exile);
            x.set(4, 11 * exile);
            x.deal(0, 1, 7);
            marksAre("exile " + exile, x, 20, 30, 40, 50, exile, 35 - 77 * exile, 1);
            due("in the book", x.book(0, 4), 2);
        }
        NotchSticks often = breaker();
        often.set(6, 0);
        for (int i = 1; i < 30; i++) {
            due("with EXILE 0 one deals on", often.deal(0, 1, 12), i - 1);
            due("UNLAWFUL one more each time", often.of(0, 8), i);
        }
        says("not noticed: as if he kept (on the STICK)");
        for (int law = 0; law < 2; law++) {
            NotchSticks x = marked(law == 0 ? breaker() : lawfulBreaker());
            x.set(5, 0);
            x.deal(0, 1, 7);
            marksAre("not noticed", x, 21, 30, 47, 50, 0, 35, 0);
            due("in the book", x.book(0, 4), 3);
        }
        says("what both do is asked ahead (whether they DEAL, BREAK, what is LAWFUL)");
        NotchSticks y = valley(2);
        tell(y, 0, "may when kept=0 and broken=0;");
        tell(y, 2, "deal when purse=0 and obroken=0 and okept=0;break when lawful=1 and obroken=0 and olawful=1;");
        y.stick(0, 0, 0);
        y.stick(1, 0, 0);
        due("the deal", y.deal(0, 1, 1), 0);
        due("a", y.book(0, 4), 1);
        due("b", y.book(0, 5), 1);
        askedOfBoth();
        NotchSticks z = valley(2);
        tell(z, 2, "break when 1=1;");
        z.stick(0, 0, 0);
        z.stick(1, 0, 0);
        z.deal(0, 1, 1);
        due("a is out then, b is marked all the same", z.of(0, 6) + 10 * z.of(1, 6), 11);
    }

    /** Of each his own: a break of size 3 is lawful for the second alone. */
    private static void askedOfBoth() {
        NotchSticks x = valley(2);
        x.set(6, 0);
        x.set(9, 1);
        tell(x, 1, "may when size=3 and age=21;");
        x.stick(0, 0, 0);
        x.stick(1, 0, 0);
        String[] rules = {"break when lawful=1;", "break when olawful=1;", "break when oage=20;", "break when age=20;",
            "break when size=3 and age=21;"};
        int[][] did = {{0, 1}, {2, 0}, {0, 1}, {2, 0}, {0, 1}};
        for (int i = 0; i < rules.length; i++) {
            tell(x, 2, rules[i]);
            int number = x.deal(0, 1, 3);
            due(rules[i] + " a", x.book(number, 4), did[i][0]);
            due(rules[i] + " b", x.book(number, 5), did[i][1]);
            number = x.deal(1, 0, 3);
            due(rules[i] + " the other way round, a", x.book(number, 4), did[i][1]);
            due(rules[i] + " the other way round, b", x.book(number, 5), did[i][0]);
        }
    }

    private static void bookRoom() {
        says("it is in the BOOK (300 at most; without room it comes to nothing)");
        NotchSticks x = breaker();
        x.stick(0, 0, 4);
        x.set(8, 20);
        due("280", x.years(14), 280);
        x.set(8, 19);
        due("299", x.years(1), 19);
        x.stick(0, 0, 0);
        x.set(5, 500);
        x.state(5);
        due("the last one", x.deal(0, 1, 4), 299);
        due("its draw", x.state(5), step(5));
        x.stick(0, 6, 0);
        due("is in the book", x.book(299, 3), 4);
        String before = seen(x);
        due("no room", x.deal(0, 1, 4), NONE);
        same("a deal without room", x, before);
        due("what can't be is told all the same", x.deal(0, 1, 13), -2);
        due("none behind", x.book(300, 3), NONE);
        says("years: how many DEALS came into the BOOK");
        due("none without room", x.years(2), 0);
        due("the year goes by", x.look(1), 17);
        due("300 still", x.look(2), 300);
        NotchSticks y = valley(2);
        y.set(8, 20);
        y.years(14);
        y.deal(0, 1, 1);
        due("19 have room", y.years(1), 19);
        due("none has", y.years(60), 0);
        NotchSticks z = breaker();
        z.set(6, 9);
        due("one alone comes into it: then one is out for nine years", z.years(9), 1);
        due("one more in the tenth", z.years(1), 1);
    }

    /** The one DEAL of a YEAR with these draws. */
    private static NotchSticks yearOf(int people, int a, int nth, int all, int drawn, int... sizesAndWeights) {
        NotchSticks x = valley(people);
        weights(x, sizesAndWeights);
        x.set(8, 1);
        int s = drawing(new int[] {people, people - 1, all}, new int[] {a, nth, drawn});
        x.state(s);
        due("one deal", x.years(1), 1);
        due("three draws", x.state(0), step(step(step(s))));
        return x;
    }

    private static void yearDraws() {
        says("a DRAW of how many PEOPLE: a; a DRAW of one less: b, the so many-th of the others");
        for (int people : new int[] {2, 3, 12}) {
            for (int a : new int[] {0, 1, people - 1}) {
                for (int nth : new int[] {0, people / 2 - 1, people - 2}) {
                    NotchSticks x = yearOf(people, a, nth, 1, 0, 1, 1);
                    due("a", x.book(0, 1), a);
                    due("b", x.book(0, 2), nth < a ? nth : nth + 1);
                }
            }
        }
        says("a DRAW of all WEIGHTS together: the first size at which those up to it, added, are above the DRAW");
        int[] sizes = {2, 2, 2, 5, 5, 12};
        for (int drawn = 0; drawn < 6; drawn++) {
            due("drawn " + drawn, yearOf(2, 1, 0, 6, drawn, 2, 3, 5, 2, 12, 1).book(0, 3), sizes[drawn]);
        }
        int[] edges = {0, 1, 98, 1, 99, 2, 197, 2, 1089, 12, 1187, 12};
        for (int i = 0; i < edges.length; i += 2) {
            NotchSticks x = yearOf(2, 0, 0, 1188, edges[i], 1, 99, 2, 99, 3, 99, 4, 99, 5, 99, 6, 99, 7, 99, 8, 99, 9, 99,
                10, 99, 11, 99, 12, 99);
            due("drawn " + edges[i] + " of 1188", x.book(0, 3), edges[i + 1]);
        }
        due("size 1 alone", yearOf(2, 0, 0, 99, 98, 1, 99).book(0, 3), 1);
        due("size 12 alone", yearOf(2, 0, 0, 1, 0, 12, 1).book(0, 3), 12);
        says("EACH 0 .. 20: DEALS a YEAR");
        for (int each : new int[] {0, 1, 19, 20}) {
            NotchSticks x = valley(3);
            x.set(8, each);
            due("EACH " + each, x.years(1), each);
            int s = 0;
            for (int i = 0; i < 3 * each; i++) {
                s = step(s);
            }
            due("draws of EACH " + each, x.state(0), s);
        }
        due("EACH is 4 at first", valley(2).years(1), 4);
    }

    private static void yearWithoutDeals() {
        says("EACH DEALS (with two PEOPLE at least and WEIGHTS above 0; else none)");
        for (int people = 0; people < 2; people++) {
            NotchSticks x = valley(people);
            x.state(9);
            due(people + " people", x.years(3), 0);
            due("no draws", x.state(0), 9);
            due("the years go by", x.look(1), 3);
            due("he is older", x.of(0, 1), people == 0 ? NO_NUMBER : 23);
        }
        NotchSticks y = valley(2);
        weights(y);
        y.stick(0, 6, 2);
        y.state(9);
        due("no weights", y.years(1), 0);
        due("no draws without weights", y.state(9), 9);
        due("older without weights", y.of(1, 1), 22);
        due("out one less without weights", y.of(0, 6), 1);
        due("in thought without weights", y.thought(5, 0, 1), 0);
        y.set(22, 1);
        due("with a weight", y.years(2), 4);
        says("A YEAR: deals that come to nothing have their draws");
        NotchSticks z = valley(2);
        z.stick(0, 6, 9);
        due("all come to nothing", z.years(1), 0);
        int s = 0;
        for (int i = 0; i < 12; i++) {
            s = step(s);
        }
        due("twelve draws", z.state(0), s);
    }

    private static void yearEnds() {
        says("Then of each: OUT one less (if above 0)");
        NotchSticks x = valley(2);
        x.set(8, 0);
        x.stick(0, 6, 9);
        for (int out = 8; out >= 0; out--) {
            x.years(1);
            due("one less", x.of(0, 6), out);
            due("0 stays 0", x.of(1, 6), 0);
        }
        x.years(1);
        due("not below 0", x.of(0, 6), 0);
        says("AGE one more (99 at most)");
        NotchSticks y = valley(2);
        y.stick(0, 1, 97);
        y.stick(1, 1, 0);
        for (int age : new int[] {98, 99, 99, 99}) {
            y.years(1);
            due("age", y.of(0, 1), age);
        }
        due("from 0", y.of(1, 1), 4);
        says("whose AGE is CUT then (CUT above 0): KEPT, BROKEN, LARGE, LOST are 0");
        for (int cut : new int[] {0, 1, 21, 98, 99}) {
            for (int age : new int[] {0, 1, 19, 20, 21, 96, 97, 98, 99}) {
                cutAt(cut, age);
            }
        }
        says("YEAR is one more");
        NotchSticks z = valley(2);
        z.set(8, 1);
        z.years(3);
        for (int i = 0; i < 3; i++) {
            due("its deal is of the year ahead of that", z.book(i, 0), i);
            due("and of the age", z.book(i, 6) - z.book(i, 1), 20 + i);
        }
        due("year", z.look(1), 3);
        says("a YEAR: EACH DEALS. Then of each: OUT one less");
        NotchSticks w = breaker();
        due("out by EXILE 1 for what is left of a year", w.years(1), 1);
        due("not out behind it", w.of(0, 6), 0);
        due("one more in each year", w.years(5), 5);
    }

    private static void cutAt(int cut, int age) {
        NotchSticks x = marked(breaker());
        x.set(6, 9);
        x.deal(0, 1, 1);
        x.stick(0, 1, age);
        x.set(6, age % 2);
        x.set(8, 0);
        x.set(7, cut);
        x.years(1);
        boolean isCut = cut > 0 && Math.min(99, age + 1) == cut;
        for (int what = 2; what < 6; what++) {
            due("CUT " + cut + ", AGE " + age + " goes by, of(0, " + what + ")", x.of(0, what), isCut ? 0 : 10 * what);
        }
        due("OUT", x.of(0, 6), 8);
        due("PURSE stays", x.of(0, 7), -1);
        due("UNLAWFUL stays", x.of(0, 8), 1);
        due("the other one is 22: not cut", x.of(1, 2), 1);
    }

    private static void yearsBounds() {
        says("YEARS go by (1 .. 60); NONE, and nothing is done, if one can't be");
        NotchSticks x = breaker();
        x.stick(0, 6, 5);
        String before = seen(x);
        for (int n : new int[] {0, -1, 61, MIN, MAX}) {
            due("years(" + n + ")", x.years(n), NONE);
        }
        same("a refused years()", x, before);
        due("years(1)", x.years(1), 0);
        due("one", x.look(1), 1);
        x.set(8, 0);
        due("years(60)", x.years(60), 0);
        due("sixty more", x.look(1), 61);
        says("years: NONE, and nothing is done, beyond YEAR 999; YEAR 999 at most");
        x = valley(2);
        x.set(8, 0);
        for (int i = 0; i < 16; i++) {
            x.years(60);
        }
        x.years(1);
        due("961", x.look(1), 961);
        x.set(8, 1);
        before = seen(x);
        due("39 to 1000", x.years(39), NONE);
        due("60 beyond it", x.years(60), NONE);
        same("years() beyond 999", x, before);
        due("38 to 999", x.years(38), 38);
        due("999", x.look(1), 999);
        before = seen(x);
        due("one beyond it", x.years(1), NONE);
        due("60 beyond it", x.years(60), NONE);
        same("years() behind 999", x, before);
        due("a deal in 999", x.deal(0, 1, 1), 38);
        due("is of 999", x.book(38, 0), 999);
        tell(x, 0, "may when year=999;");
        due("year in a text", x.would(0, 1, 1, 2), 1);
    }

    private static void planBounds() {
        says("PLAN: surplus s (0 .. 24), NEED 1 .. 9, k DEALS to come (0 .. 60), PATIENCE p 0 .. 1000; NONE - 999999999 if one can't be");
        NotchSticks x = new NotchSticks();
        int[][] refused = {{-1, 1, 1, 1}, {61, 1, 1, 1}, {1, -1, 1, 1}, {1, 25, 1, 1}, {1, 1, 0, 1}, {1, 1, 10, 1},
            {1, 1, 1, -1}, {1, 1, 1, 1001}, {MIN, 1, 1, 1}, {MAX, 1, 1, 1}, {1, MIN, 1, 1}, {1, MAX, 1, 1},
            {1, 1, MIN, 1}, {1, 1, MAX, 1}, {1, 1, 1, MIN}, {1, 1, 1, MAX}};
        for (int[] r : refused) {
            for (int what = 0; what < 3; what++) {
                due("plan(" + r[0] + ", " + r[1] + ", " + r[2] + ", " + r[3] + ", " + what + ")",
                    x.plan(r[0], r[1], r[2], r[3], what), NO_WORTH);
            }
        }
        due("all the least", x.plan(0, 0, 1, 0, 0), 0);
        due("all the most", x.plan(60, 24, 9, 1000, 0), 60 * 3000 + 8 * 2000);
        says("plan: or another what");
        for (int what : new int[] {-1, 3, MIN, MAX}) {
            due("what " + what, x.plan(1, 1, 1, 1, what), NO_WORTH);
        }
        says("plan: 1 EDGE (k 1 and above)");
        due("k 0", x.plan(0, 1, 1, 0, 1), NO_WORTH);
        due("k 1", x.plan(1, 1, 1, 0, 1), 1);
        due("k 60", x.plan(60, 24, 1, 0, 1), 1);
        says("NOTCH: VALUE with s and 1 less VALUE with s (s below 24)");
        due("s 24", x.plan(1, 24, 1, 0, 2), NO_WORTH);
        due("s 23", x.plan(1, 23, 1, 0, 2), 0);
        due("s 0", x.plan(1, 0, 1, 0, 2), 2000);
        due("s 8 with NEED 9", x.plan(1, 8, 9, 0, 2), 2000);
        due("s 7 with NEED 9", x.plan(1, 7, 9, 0, 2), 0);
        due("none to come", x.plan(0, 0, 1, 0, 2), 0);
        says("plan: if one can't be (no WEIGHTS)");
        weights(x);
        for (int what = 0; what < 3; what++) {
            due("no weights, k 1, what " + what, x.plan(1, 1, 1, 1, what), NO_WORTH);
            due("no weights, k 0, what " + what, x.plan(0, 1, 1, 1, what), NO_WORTH);
        }
    }

    private static void planValues() {
        says("his VALUE, of thousandths: with none 0");
        NotchSticks x = new NotchSticks();
        for (int s : new int[] {0, 24}) {
            due("none to come", x.plan(0, s, 1, 1000, 0), 0);
        }
        says("a broken one takes NEED 1 .. 9, and must have it");
        for (int need = 1; need <= 9; need++) {
            due("just it", x.plan(1, need, need, 0, 0), 5000);
            due("one less", x.plan(1, need - 1, need, 0, 0), 3000);
            due("edge with just it", x.plan(1, need, need, 0, 1), 1);
            due("edge with one less", x.plan(1, need - 1, need, 0, 1), NONE);
            due("what is left is one less", x.plan(2, 2 * need - 1, need, 1000, 0), 8000);
            due("what is left is enough", x.plan(2, 2 * need, need, 1000, 0), 10000);
        }
        says("a kept word: one more, 24 at most");
        weights(x, 1, 3, 12, 1);
        for (int need : new int[] {1, 8, 9}) {
            for (int s = 22; s <= 24; s++) {
                for (int k : new int[] {2, 7, 60}) {
                    due("value of " + s + ", k " + k, x.plan(k, s, need, 1000, 0), value(new long[61][25], k, s, need, 3, 1));
                }
            }
        }
        says("p by 1000 of VALUE behind");
        NotchSticks y = new NotchSticks();
        due("p 0", y.plan(60, 0, 9, 0, 0), 3000);
        due("p 1", y.plan(2, 0, 9, 1, 0), 3003);
        due("p 999", y.plan(2, 0, 9, 999, 0), 5997);
        due("p 1000", y.plan(60, 0, 9, 1000, 0), 54 * 3000 + 6 * 5000);
        says("EDGE: the least size for which breaking is better (NONE: none is)");
        due("with one to come nothing is behind it", y.plan(1, 1, 1, 1000, 1), 1);
        due("as good is not better", y.plan(2, 1, 1, 1000, 1), 2);
        due("keeping makes 3 of 2: 8000 behind it, against 6000", y.plan(3, 2, 2, 1000, 1), 2);
        due("keeping makes 4 of 3: 10000 behind it, against 8000", y.plan(3, 3, 2, 1000, 1), 2);
        due("one thousandth more is", y.plan(2, 1, 1, 999, 1), 1);
        due("half of it: 5000 against 4000", y.plan(3, 3, 2, 500, 1), 1);
        due("3 less 2 is not enough behind it", y.plan(2, 3, 2, 1000, 1), 2);
        due("5 less 2 is", y.plan(2, 5, 2, 1000, 1), 1);
        weights(y, 12, 1);
        due("half of 105000 against half of 93000 behind it", y.plan(4, 2, 1, 500, 1), 4);
        due("NOTCH: 105000 less 99000", y.plan(3, 2, 1, 500, 2), 6000);
        weights(y, 1, 1);
        due("half of 3000 less", y.plan(3, 2, 2, 500, 0), 5000 + 1500 + 750);
        y.set(1, 3);
        due("never, if it brings no more", y.plan(1, 24, 1, 1000, 1), NONE);
        y.set(1, 4);
        weights(y, 11, 1);
        due("12", y.plan(2, 1, 1, 1000, 1), 12);
        weights(y, 12, 1);
        due("none up to 12", y.plan(2, 1, 1, 1000, 1), NONE);
    }

    /** VALUE with WEIGHTS of size 1 and 12 as told, KEEP 3, BREAK 5, PATIENCE 1000, by the document's own words. */
    private static long value(long[][] known, int k, int s, int need, int small, int great) {
        if (k == 0) {
            return 0;
        }
        if (known[k][s] == 0) {
            long keeping = value(known, k - 1, Math.min(24, s + 1), need, small, great);
            long sum = 0;
            for (int size = 1; size <= 12; size += 11) {
                long best = 3000L * size + keeping;
                if (s >= need) {
                    best = Math.max(best, 5000L * size + value(known, k - 1, s - need, need, small, great));
                }
                sum += (size == 1 ? small : great) * best;
            }
            known[k][s] = Math.floorDiv(sum, (long) (small + great));
        }
        return known[k][s];
    }

    private static void longerBounds() {
        says("LONGER: t (1 .. 13), NEED, r rounds (1 .. 200): NONE if one can't be, or another what");
        NotchSticks x = new NotchSticks();
        int[][] refused = {{0, 1, 1, 0}, {14, 1, 1, 0}, {-2, 1, 1, 0}, {MIN, 1, 1, 0}, {MAX, 1, 1, 0}, {1, 0, 1, 0},
            {1, 10, 1, 0}, {1, -1, 1, 0}, {1, MIN, 1, 0}, {1, MAX, 1, 0}, {1, 1, 0, 0}, {1, 1, 201, 0}, {1, 1, -1, 0},
            {1, 1, MIN, 0}, {1, 1, MAX, 0}, {1, 1, 1, -1}, {1, 1, 1, 2}, {1, 1, 1, MIN}, {1, 1, 1, MAX}};
        for (int[] r : refused) {
            due("longer(" + r[0] + ", " + r[1] + ", " + r[2] + ", " + r[3] + ")", x.longer(r[0], r[1], r[2], r[3]), NONE);
        }
        due("the least", x.longer(1, 1, 1, 0), 0);
        due("the least, gain", x.longer(1, 1, 1, 1), 3000);
        due("the most", x.longer(13, 9, 200, 0), 0);
        due("the most, gain", x.longer(13, 9, 200, 1), 3000);
        due("r 200", x.longer(1, 9, 200, 0), 1000000000);
        due("r 199", x.longer(1, 9, 199, 0), 0);
        says("t NONE: BEST EDGE (what not asked)");
        for (int what : new int[] {0, 1, 2, -1, MIN, MAX}) {
            due("what " + what, x.longer(-1, 1, 2, what), 1);
        }
        due("need 0", x.longer(-1, 0, 2, 0), NONE);
        due("need 10", x.longer(-1, 10, 2, 0), NONE);
        due("r 0", x.longer(-1, 1, 0, 0), NONE);
        due("r 201", x.longer(-1, 1, 201, 0), NONE);
        due("r 200", x.longer(-1, 9, 200, 0), 1);
        says("longer: NONE if one can't be (no WEIGHTS)");
        weights(x);
        due("no weights", x.longer(1, 1, 1, 0), NONE);
        due("no weights, GAIN", x.longer(1, 1, 1, 1), NONE);
        due("no weights, BEST EDGE", x.longer(-1, 1, 1, 0), NONE);
    }

    private static void longerValues() {
        says("weights of ALL by surplus, all at 0; who break as often as they can");
        NotchSticks x = new NotchSticks();
        for (int need = 1; need <= 9; need++) {
            due("who has NEED " + need, x.longer(1, need, need + 1, 0), 1000000000);
            due("who has one less", x.longer(1, need, need, 0), 0);
            due("behind it", x.longer(1, need, need + 2, 0), 0);
            due("again", x.longer(1, need, 2 * need + 2, 0), 1000000000);
        }
        says("who break all of size t and above");
        weights(x, 1, 1, 2, 1, 12, 2);
        int[] shares = {0, 1000000000, 750000000, 500000000};
        due("t 1", x.longer(1, 1, 2, 0), shares[1]);
        due("t 2", x.longer(2, 1, 2, 0), shares[2]);
        due("t 3", x.longer(3, 1, 2, 0), shares[3]);
        due("t 12", x.longer(12, 1, 2, 0), shares[3]);
        due("t 13: never", x.longer(13, 1, 2, 0), shares[0]);
        says("weight times WEIGHT by all WEIGHTS downwards (the rest of it with the greatest size that has a WEIGHT)");
        weights(x, 1, 1, 3, 1, 7, 1);
        due("a third and the rest", x.longer(7, 1, 2, 0), 333333334);
        due("both thirds", x.longer(2, 1, 2, 0), 666666667);
        due("nothing goes on with 8", x.longer(8, 1, 2, 0), 0);
        due("gain", x.longer(7, 1, 2, 1), (3 * 333333333L + 9 * 333333333L + 35 * 333333334L) / 1000000);
        says("of each weight: also of 1");
        weights(x, 1, 1, 12, 54);
        due("a weight of 1 at surplus 4", x.longer(12, 1, 7, 0), share(12, 1, 7, 1, 54)[0]);
        due("is broken", share(12, 1, 7, 1, 54)[0], 18181283);
        says("surplus 24 at most");
        weights(x, 1, 98, 12, 1);
        for (int need : new int[] {7, 8, 9}) {
            for (int r : new int[] {30, 200}) {
                long[] want = share(12, need, r, 98, 1);
                due("SHARE with NEED " + need + ", r " + r, x.longer(12, need, r, 0), want[0]);
                due("GAIN with NEED " + need + ", r " + r, x.longer(12, need, r, 1), want[1]);
            }
        }
        says("BEST EDGE: the t with the greatest GAIN, of several the least");
        weights(x, 4, 1);
        due("all alike in round 1", x.longer(-1, 1, 1, 0), 1);
        due("up to 4 alike", x.longer(-1, 1, 2, 0), 1);
        x.set(1, 2);
        due("never is best: 5 .. 13 alike", x.longer(-1, 1, 2, 0), 5);
        due("with NEED 2 nobody can break in round 2", x.longer(-1, 2, 2, 0), 1);
        weights(x, 12, 1);
        due("never is best: 13", x.longer(-1, 1, 2, 0), 13);
    }

    /** SHARE and GAIN with WEIGHTS of size 1 and 12, t above 1, KEEP 3, BREAK 5. */
    private static long[] share(int t, int need, int rounds, int small, int great) {
        long[] at = new long[25];
        at[0] = 1000000000;
        long broke = 0;
        long gain = 0;
        for (int round = 0; round < rounds; round++) {
            long[] next = new long[25];
            broke = 0;
            gain = 0;
            for (int s = 0; s < 25; s++) {
                long first = at[s] * small / (small + great);
                long rest = at[s] - first;
                next[Math.min(24, s + 1)] += first;
                gain += 3 * first;
                if (t <= 12 && s >= need) {
                    next[s - need] += rest;
                    broke += rest;
                    gain += 60 * rest;
                } else {
                    next[Math.min(24, s + 1)] += rest;
                    gain += 36 * rest;
                }
            }
            at = next;
        }
        return new long[] {broke, gain / 1000000};
    }

    private static void commonEdges() {
        says("common: NONE - 999999999 if one can't be (as for longer(), t not NONE)");
        NotchSticks x = new NotchSticks();
        int[][] refused = {{-1, 1, 1}, {0, 1, 1}, {14, 1, 1}, {MIN, 1, 1}, {MAX, 1, 1}, {1, 0, 1}, {1, 10, 1}, {1, -2, 1},
            {1, MIN, 1}, {1, MAX, 1}, {1, 1, 0}, {1, 1, 201}, {1, 1, -1}, {1, 1, MIN}, {1, 1, MAX}, {-1, -1, 1},
            {0, -1, 1}, {14, -1, 1}, {1, -1, 0}, {1, -1, 201}};
        for (int[] r : refused) {
            due("common(" + r[0] + ", " + r[1] + ", " + r[2] + ")", x.common(r[0], r[1], r[2]), NO_WORTH);
        }
        due("the least", x.common(1, 1, 1), 6000);
        due("the most", x.common(13, 9, 200), 6000);
        due("r 200 with NEED 9", x.common(1, 9, 200), 1000);
        due("r 199 with NEED 9", x.common(1, 9, 199), 6000);
        due("r 2 with NEED 2", x.common(1, 2, 2), 6000);
        says("weight times size times 2 KEEP for what was kept, BREAK less HURT for what broke");
        weights(x, 3, 1);
        due("kept", x.common(4, 1, 2), 18000);
        due("broke", x.common(3, 1, 2), 3000);
        x.set(2, 99);
        x.set(1, 0);
        due("less than nothing", x.common(3, 1, 2), -297000);
        says("need NONE: BEST NEED: the NEED 1 .. 9 with the greatest COMMON, of several the least");
        due("2 is the first that keeps in round 2", x.common(3, -1, 2), 2);
        due("also if breaking is better for who breaks", new NotchSticks().common(1, -1, 2), 2);
        due("all keep in round 1", x.common(3, -1, 1), 1);
        due("all keep with t 13", x.common(13, -1, 2), 1);
        NotchSticks y = new NotchSticks();
        y.set(2, 0);
        due("6000 is greater than 5000", y.common(1, -1, 2), 2);
        y.set(2, 99);
        due("6000 is greater than -94000", y.common(1, -1, 2), 2);
        y.set(2, 0);
        y.set(0, 0);
        // Breaks alone count: with NEED n all break in each round that n + 1 parts.
        due("1, 4 and 9 break in round 10", y.common(1, -1, 10), 1);
        due("6 breaks in round 7", y.common(1, -1, 7), 6);
        due("1 breaks in round 2", y.common(1, -1, 2), 1);
        due("2 breaks in round 3", y.common(1, -1, 3), 2);
        due("2 and 8 break in round 9", y.common(1, -1, 9), 2);
        due("none breaks in round 11", y.common(1, -1, 11), 1);
        NotchSticks z = new NotchSticks();
        z.set(0, 0);
        z.set(1, 0);
        weights(z, 1, 1, 2, 1);
        due("9 breaks least of all", z.common(2, -1, 19), 9);
        says("common: if one can't be (no WEIGHTS)");
        weights(z);
        due("no weights", z.common(1, 1, 1), NO_WORTH);
        due("no weights, BEST NEED", z.common(1, -1, 1), NO_WORTH);
    }

    private static void pairEdges() {
        says("PAIR: k times (1 .. 20), surpluses a, b (0 .. 8 each), t, u (1 .. 13), NEED: NONE - 999999999 if one can't be, or another what");
        NotchSticks x = new NotchSticks();
        int[] least = {1, 0, 0, 1, 1, 1, 0};
        int[] most = {20, 8, 8, 9, 13, 13, 1};
        for (int i = 0; i < 7; i++) {
            for (int v : new int[] {least[i] - 1, most[i] + 1, MIN, MAX}) {
                int[] g = {2, 3, 4, 5, 6, 7, 0};
                g[i] = v;
                due("argument " + i + " is " + v, x.pair(g[0], g[1], g[2], g[3], g[4], g[5], g[6]), NO_WORTH);
            }
        }
        due("all the least", x.pair(1, 0, 0, 1, 1, 1, 0), 3000);
        due("all the most", x.pair(20, 8, 8, 9, 13, 13, 1), 60000);
        says("(8 at most then)");
        due("8 kept is 8, below NEED 9", x.pair(20, 8, 8, 9, 1, 1, 0), 60000);
        due("8 kept is 8, for the second one", x.pair(2, 8, 8, 9, 1, 1, 1), 6000);
        due("8 of size 1 is 8, then 0, then 1 .. 8", x.pair(10, 8, 0, 8, 1, 13, 0), 5000 + 8 * 3000 + 5000);
        due("the same for the second one", x.pair(10, 0, 8, 8, 13, 1, 1), 5000 + 8 * 3000 + 5000);
        says("each keeps or breaks by his own surplus ahead of it, as often as they can (NEED alike)");
        for (int need = 1; need <= 8; need++) {
            due("the first has NEED", x.pair(1, need, 0, need, 1, 1, 0), 5000);
            due("the second is hurt", x.pair(1, need, 0, need, 1, 1, 1), -4000);
            due("the second has NEED", x.pair(1, 0, need, need, 1, 1, 1), 5000);
            due("the first is hurt", x.pair(1, 0, need, need, 1, 1, 0), -4000);
            due("both have it", x.pair(1, need, need, need, 1, 1, 0), -1000);
            due("neither has", x.pair(1, need - 1, need - 1, need, 1, 1, 0), 3000);
        }
        says("a kept word: one more (PAIR)");
        for (int need = 2; need <= 8; need++) {
            due("the first keeps NEED times, then breaks", x.pair(need + 1, 0, 0, need, 1, 13, 0), 3000 * need + 5000);
            due("the second keeps NEED times, then breaks", x.pair(need + 1, 0, 0, need, 13, 1, 1), 3000 * need + 5000);
            due("not sooner", x.pair(need, 0, 0, need, 1, 1, 0), 3000 * need);
            due("the first by his own", x.pair(need + 1, 0, 8, need, 1, 13, 0), 3000 * need + 5000);
            due("the second by his own", x.pair(need + 1, 8, 0, need, 13, 1, 1), 3000 * need + 5000);
        }
        says("who both break all of size t, u and above (the first one's, the second one's)");
        weights(x, 6, 1);
        due("t 6", x.pair(1, 1, 1, 1, 6, 7, 0), 30000);
        due("t 7", x.pair(1, 1, 1, 1, 7, 6, 0), -24000);
        due("both 6", x.pair(1, 1, 1, 1, 6, 6, 1), -6000);
        due("both 7", x.pair(1, 1, 1, 1, 7, 7, 1), 18000);
        says("what comes of it, added, by 1000000; all k times added");
        weights(x, 1, 1, 2, 1, 3, 1);
        long once = (3 * 333333333L + 6 * 333333333L + 9 * 333333334L) / 1000000;
        for (int k : new int[] {1, 2, 19, 20}) {
            due("k " + k, x.pair(k, 0, 0, 1, 13, 13, 0), k * once);
        }
        says("PAIR: of each weight: also of 1");
        weights(x, 1, 1, 2, 55);
        due("the first", x.pair(7, 2, 0, 2, 2, 3, 0), 53551);
        due("the second", x.pair(7, 2, 0, 2, 2, 3, 1), -128);
        says("pair: if one can't be (no WEIGHTS)");
        weights(x);
        due("no weights", x.pair(1, 0, 0, 1, 1, 1, 0), NO_WORTH);
    }

    private static void holdsEdges() {
        says("holds: NONE if one can't be (no WEIGHTS), or another what");
        NotchSticks x = new NotchSticks();
        int[] least = {1, 0, 0, 1, 0};
        int[] most = {20, 8, 8, 9, 2};
        for (int i = 0; i < 5; i++) {
            for (int v : new int[] {least[i] - 1, most[i] + 1, MIN, MAX}) {
                int[] g = {2, 3, 4, 5, 0};
                g[i] = v;
                due("argument " + i + " is " + v, x.holds(g[0], g[1], g[2], g[3], g[4]), NONE);
            }
        }
        says("how many, the first (20 t + u), that with the most for both together (of several the first)");
        due("all the least: all hold", x.holds(1, 0, 0, 1, 0), 169);
        due("the first", x.holds(1, 0, 0, 1, 1), 21);
        due("of several the first", x.holds(1, 0, 0, 1, 2), 21);
        due("all the most: nobody can break", x.holds(20, 8, 8, 9, 0), 169);
        due("all the most, the first", x.holds(20, 8, 8, 9, 1), 21);
        due("both break", x.holds(1, 1, 1, 1, 0), 1);
        due("both break, the first", x.holds(1, 1, 1, 1, 1), 21);
        due("both break: -2000 is the most", x.holds(1, 1, 1, 1, 2), 21);
        x.set(1, 2);
        x.set(3, 5);
        due("breaking is never better", x.holds(1, 1, 1, 1, 0), 144);
        due("the first is 2, 2", x.holds(1, 1, 1, 1, 1), 42);
        due("nobody has it in two times: all hold", x.holds(2, 0, 0, 2, 0), 169);
        due("in three they have", x.holds(3, 0, 0, 2, 0), 144);
        weights(x, 12, 1);
        due("13, 13 alone", x.holds(1, 1, 1, 1, 0), 1);
        due("is 273", x.holds(1, 1, 1, 1, 1), 273);
        due("is the most", x.holds(1, 1, 1, 1, 2), 273);
        due("the first one alone can break", x.holds(1, 1, 0, 1, 0), 13);
        due("u is as it may", x.holds(1, 1, 0, 1, 1), 261);
        due("the second one alone can", x.holds(1, 0, 1, 1, 1), 33);
        says("neither has a greater GAIN with another one of his own alone");
        x.set(1, 3);
        x.set(3, 4);
        due("as great is not greater", x.holds(1, 1, 1, 1, 0), 169);
        due("keeping is the most for both", x.holds(1, 1, 1, 1, 2), 273);
        due("but the first is 1, 1", x.holds(1, 1, 1, 1, 1), 21);
        weights(x);
        due("no weights", x.holds(1, 0, 0, 1, 0), NONE);
        due("no weights, the first", x.holds(1, 0, 0, 1, 1), NONE);
    }

    /**
     * Where breaking brings as much as keeping, whatever the other one does, GAINS by one's own sizes differ by what
     * goes downwards alone: there they may go around so that no couple holds.
     */
    private static void holdsWithoutOne() {
        says("holds: NONE without one (1, 2)");
        NotchSticks x = breakingAsGoodAsKeeping();
        for (int[] surpluses : new int[][] {{6, 0}, {0, 6}}) {
            int a = surpluses[0];
            int b = surpluses[1];
            due("from " + a + ", " + b + ": 0, not NONE", x.holds(20, a, b, 4, 0), 0);
            due("from " + a + ", " + b + ": no first", x.holds(20, a, b, 4, 1), NONE);
            due("from " + a + ", " + b + ": none with the most", x.holds(20, a, b, 4, 2), NONE);
        }
        due("once, all hold", x.holds(1, 6, 0, 4, 0), 169);
        due("once, the first", x.holds(1, 6, 0, 4, 1), 21);
        long[][] first = new long[14][14];
        long[][] second = new long[14][14];
        NotchSticks y = breakingAsGoodAsKeeping();
        for (int t = 1; t <= 13; t++) {
            for (int u = 1; u <= 13; u++) {
                first[t][u] = y.pair(20, 6, 0, 4, t, u, 0);
                second[t][u] = y.pair(20, 6, 0, 4, t, u, 1);
            }
        }
        for (int t = 1; t <= 13; t++) {
            for (int u = 1; u <= 13; u++) {
                boolean holds = true;
                for (int other = 1; other <= 13; other++) {
                    holds &= first[other][u] <= first[t][u] && second[t][other] <= second[t][u];
                }
                due("by pair() too, with " + t + ", " + u + " somebody would do otherwise", holds, false);
            }
        }
    }

    private static NotchSticks breakingAsGoodAsKeeping() {
        NotchSticks x = new NotchSticks();
        weights(x, 1, 1, 2, 18, 3, 54, 4, 63, 5, 25, 8, 39, 9, 65, 10, 40, 11, 65, 12, 9);
        int[] worths = {92, 92, 60, 60};
        for (int what = 0; what < worths.length; what++) {
            x.set(what, worths[what]);
        }
        return x;
    }

    private static void restsEdges() {
        says("rests: NONE if one can't be (the same)");
        NotchSticks x = valley(2);
        int[][] refused = {{0, 0, 1}, {1, 1, 1}, {0, 2, 1}, {2, 0, 1}, {-1, 0, 1}, {0, -1, 1}, {0, 1, 0}, {0, 1, 13},
            {0, 1, MIN}, {0, 1, MAX}, {MIN, 1, 1}, {0, MAX, 1}};
        for (int[] r : refused) {
            due("rests(" + r[0] + ", " + r[1] + ", " + r[2] + ")", x.rests(r[0], r[1], r[2]), NONE);
        }
        says("VALUE: 0, if one does not deal; else 1000 times what comes to his PURSE; NOTICE times FINE times size less");
        int neither = 1;
        int firstBreaks = 1 << 6;
        int secondBreaks = 1 << 2;
        int keep = 1 << 4;
        int both = 1 << 8;
        int nothing = neither + firstBreaks + secondBreaks;
        for (int size : new int[] {1, 12}) {
            x.set(4, 2);
            due("5000 less 2000 is 3000: not greater", x.rests(0, 1, size), nothing + keep);
            x.set(5, 999);
            due("5000 less 1998 is greater", x.rests(0, 1, size), nothing);
            x.set(5, 1000);
            x.set(4, 1);
            due("5000 less 1000 is greater", x.rests(0, 1, size), nothing);
            x.set(4, 3);
            due("5000 less 3000 is less", x.rests(0, 1, size), nothing + keep);
            x.set(5, 0);
            due("never noticed", x.rests(0, 1, size), nothing);
            x.set(5, 1000);
        }
        says("neither has a greater VALUE by another doing alone");
        x.set(4, 0);
        for (int i = 0; i < 4; i++) {
            x.set(i, 0);
        }
        due("all alike: all rest", x.rests(0, 1, 1), 511);
        x.set(3, 1);
        due("both breaking is less than not to deal", x.rests(0, 1, 1), 511 - both);
        x.set(3, 0);
        x.set(4, 1);
        due("a fine for both", x.rests(0, 1, 1), 1 + 2 + 4 + 8 + 64 + keep);
        tell(x, 0, "may when age=20;");
        due("a fine for the second alone", x.rests(0, 1, 1), 1 + 2 + 4 + 8 + 64 + keep + 128);
        says("if it is not LAWFUL for him");
        tell(x, 0, "may when size=3 and age=21;");
        x.set(0, 3);
        x.set(1, 5);
        x.set(4, 9);
        due("of size 2 for nobody", x.rests(0, 1, 2), 1 + 64 + 4 + keep);
        due("of size 3 for the second", x.rests(0, 1, 3), 1 + 64 + 4 + 32);
        due("of size 4 for nobody", x.rests(1, 0, 4), 1 + 64 + 4 + keep);
        restsOfAllWorths();
        says("(OUT not asked)");
        for (int i = 0; i < 4; i++) {
            x.set(i, 0);
        }
        x.set(4, 1);
        tell(x, 0, "may when age=20;");
        x.stick(0, 6, 9);
        x.stick(1, 6, 9);
        due("out", x.rests(0, 1, 1), 1 + 2 + 4 + 8 + 64 + keep + 128);
    }

    /** RESTS by the document's own words for all worths and fines of 0 .. 2, with a break lawful for the second alone. */
    private static void restsOfAllWorths() {
        says("RESTS: the couples in which neither has a greater VALUE by another doing alone: as a set (3 a's + b's)");
        for (int worths = 0; worths < 81; worths++) {
            NotchSticks x = valley(2);
            tell(x, 0, "may when age=21;");
            int[] w = {worths % 3, worths / 3 % 3, worths / 9 % 3, worths / 27};
            for (int i = 0; i < 4; i++) {
                x.set(i, w[i]);
            }
            for (int fine = 0; fine < 3; fine++) {
                x.set(4, fine);
                due("worths " + worths + ", fine " + fine, x.rests(0, 1, 1), resting(w, fine, 0));
                due("worths " + worths + ", fine " + fine + ", the other way round", x.rests(1, 0, 1), resting(w, 0, fine));
            }
        }
    }

    private static int resting(int[] w, int fine, int otherFine) {
        int set = 0;
        for (int couple = 0; couple < 9; couple++) {
            int a = couple / 3;
            int b = couple % 3;
            boolean rests = true;
            for (int other = 0; other < 3; other++) {
                rests &= coupleValue(w, other, b, fine) <= coupleValue(w, a, b, fine);
                rests &= coupleValue(w, other, a, otherFine) <= coupleValue(w, b, a, otherFine);
            }
            set += rests ? 1 << couple : 0;
        }
        return set;
    }

    private static int coupleValue(int[] w, int mine, int others, int fine) {
        int[] values = {0, 0, 0, 0, w[0], -w[2], 0, w[1] - fine, -w[3] - fine};
        return values[3 * mine + others];
    }

    private static void whomEdges() {
        says("WHOM: the one of the others who are not OUT ..; NONE if there is nobody, or one can't be");
        due("one alone", valley(1).whom(0, 1), NONE);
        NotchSticks x = valley(4);
        for (int who : new int[] {-1, 4, 12, MIN, MAX}) {
            due("whom(" + who + ", 1)", x.whom(who, 1), NONE);
        }
        for (int size : new int[] {0, 13, -1, MIN, MAX}) {
            due("whom(0, " + size + ")", x.whom(0, size), NONE);
        }
        due("size 1", x.whom(0, 1), 1);
        due("size 12", x.whom(0, 12), 1);
        x.stick(1, 6, 1);
        due("who is out by 1", x.whom(0, 1), 2);
        x.stick(2, 6, 9);
        due("who is out by 9", x.whom(0, 1), 3);
        x.stick(3, 6, 1);
        due("all others are out", x.whom(0, 1), NONE);
        for (int who = 1; who < 4; who++) {
            x.stick(who, 6, 0);
        }
        says("with the most KEPT; of several the first");
        x.stick(2, 2, 1);
        due("one notch more", x.whom(0, 1), 2);
        x.stick(3, 2, 1);
        due("as many: the first", x.whom(0, 1), 2);
        x.stick(3, 2, 9999);
        due("the most", x.whom(0, 1), 3);
        x.stick(0, 2, 9999);
        due("not himself", x.whom(0, 1), 3);
        due("he for the others", x.whom(3, 1), 0);
        tell(x, 5, "deal when oage=21;");
        x.stick(0, 0, 3);
        due("he deals with 1 alone", x.whom(0, 1), 1);
        due("1 with both alike: the first", x.whom(1, 1), 0);
        x.stick(3, 2, 0);
        due("1 with him who has more", x.whom(1, 1), 0);
        due("2 not with him", x.whom(2, 1), 1);
        x.stick(3, 2, 9999);
        x.stick(0, 0, 4);
        says("who by their RULES (and his) DEAL with him as he with them, and do not BREAK");
        tell(x, 2, "deal when size<6;break when size>3;");
        x.stick(3, 0, 0);
        due("who deals and keeps", x.whom(0, 3), 3);
        due("who breaks", x.whom(0, 4), 2);
        due("who does not deal", x.whom(0, 6), 2);
        x.stick(3, 0, 4);
        x.stick(0, 0, 0);
        due("he may break himself", x.whom(0, 5), 3);
        due("he does not deal himself", x.whom(0, 6), NONE);
    }

    private static void safeAndNames() {
        says("SAFE: those for whom a break of no size would be LAWFUL now, as a set");
        NotchSticks x = valley(12);
        due("an empty law", x.safe(), 4095);
        tell(x, 0, "may when size=1 and age=20;");
        due("by size 1 alone", x.safe(), 4094);
        tell(x, 0, "may when size=12 and age=31;");
        due("by size 12 alone", x.safe(), 2047);
        tell(x, 0, "may when size>12 or size<1;");
        due("by no size that is", x.safe(), 4095);
        tell(x, 0, "may when 1=1;");
        due("nobody is safe", x.safe(), 0);
        x.set(9, 1);
        due("by the other law", x.safe(), 4095);
        due("one alone", valley(1).safe(), 1);
        says("NAMES: PEOPLE by KEPT less BROKEN, the greatest first, then by LARGE, then by number");
        NotchSticks y = valley(12);
        for (int i = 0; i < 12; i++) {
            due("all alike: " + i, y.named(i), i);
        }
        for (int i : new int[] {-1, 12, MIN, MAX}) {
            due("named(" + i + ")", y.named(i), NONE);
        }
        y.stick(11, 4, 1);
        due("LARGE 1", y.named(0), 11);
        for (int i = 0; i < 11; i++) {
            y.stick(i, 5, 7);
        }
        due("LOST is not asked", y.named(0), 11);
        y.stick(10, 2, 1);
        due("KEPT 1", y.named(0), 10);
        y.stick(9, 2, 9999);
        y.stick(9, 3, 9998);
        due("9999 less 9998: by number", y.named(1), 10);
        due("and he is the first", y.named(0), 9);
        y.stick(10, 4, 1);
        due("then by LARGE", y.named(0), 10);
        y.stick(0, 3, 9999);
        due("the last", y.named(11), 0);
        due("the last but one", y.named(10), 8);
        due("the first of the rest", y.named(3), 1);
    }

    private static void annalsEdges() {
        says("ANNALS of a YEAR (0 .. 999); NONE if one can't be, or another what");
        NotchSticks x = breaker();
        x.set(6, 0);
        for (int what = 0; what < 4; what++) {
            due("empty, year 0, " + what, x.annals(0, what), 0);
            due("empty, year 999, " + what, x.annals(999, what), 0);
            for (int year : new int[] {-1, 1000, MIN, MAX}) {
                due("year " + year + ", " + what, x.annals(year, what), NONE);
            }
        }
        for (int what : new int[] {-1, 4, MIN, MAX}) {
            due("what " + what, x.annals(0, what), NONE);
        }
        says("DEALS, their sizes added, breaks, the greatest size that somebody broke (0 without)");
        x.deal(0, 1, 3);
        x.set(5, 0);
        x.deal(1, 0, 2);
        x.stick(0, 0, 4);
        x.deal(1, 0, 12);
        int[] want = {3, 17, 2, 3};
        for (int what = 0; what < 4; what++) {
            due("year 0, " + what, x.annals(0, what), want[what]);
        }
        x.set(8, 0);
        x.years(1);
        x.deal(0, 1, 12);
        x.deal(0, 1, 12);
        int[] kept = {2, 24, 0, 0};
        for (int what = 0; what < 4; what++) {
            due("year 1 without a break, " + what, x.annals(1, what), kept[what]);
            due("year 0 stays, " + what, x.annals(0, what), want[what]);
            due("year 2, " + what, x.annals(2, what), 0);
        }
        x.stick(0, 0, 0);
        x.stick(1, 0, 0);
        x.deal(0, 1, 12);
        due("both break: two breaks", x.annals(1, 2), 2);
        due("of size 12", x.annals(1, 3), 12);
    }

    private static void trustEdges() {
        says("TRUST of a decade 0 .. 9 (AGE by 10); NONE if one can't be, or another what");
        NotchSticks x = valley(2);
        int[][] ages = {{0, 9}, {10, 19}, {89, 90}, {99, 0}};
        for (int[] a : ages) {
            x.stick(0, 1, a[0]);
            x.stick(1, 1, a[1]);
            x.deal(0, 1, 1);
        }
        x.stick(0, 1, 50);
        x.stick(1, 1, 50);
        int[] want = {3, 2, 0, 0, 0, 0, 0, 0, 1, 2};
        for (int decade = 0; decade < 10; decade++) {
            due("decade " + decade, x.trust(decade, 0), want[decade]);
            due("nobody broke in " + decade, x.trust(decade, 1) + x.trust(decade, 2), 0);
        }
        for (int decade : new int[] {-1, 10, MIN, MAX}) {
            for (int what = 0; what < 3; what++) {
                due("decade " + decade, x.trust(decade, what), NONE);
            }
        }
        for (int what : new int[] {-1, 3, MIN, MAX}) {
            due("what " + what, x.trust(0, what), NONE);
        }
        says("how many, how many broke, how many breaks were noticed");
        NotchSticks y = lawfulBreaker();
        y.set(6, 0);
        y.stick(1, 1, 30);
        y.deal(0, 1, 1);
        y.deal(1, 0, 1);
        y.text(0);
        y.deal(0, 1, 1);
        y.set(5, 0);
        y.deal(0, 1, 1);
        int[] did = {4, 4, 3};
        for (int what = 0; what < 3; what++) {
            due("twenties, " + what, y.trust(2, what), did[what]);
            due("thirties, " + what, y.trust(3, what), what == 0 ? 4 : 0);
        }
    }

    private static void heldEdges() {
        says("STICKS against the BOOK; NONE - 9999999 if one can't be, or another what");
        NotchSticks x = lawfulBreaker();
        for (int who : new int[] {-1, 2, 12, MIN, MAX}) {
            due("held(" + who + ", 0)", x.held(who, 0), NO_NUMBER);
            due("held(" + who + ", 1)", x.held(who, 1), NO_NUMBER);
        }
        for (int what : new int[] {-1, 2, MIN, MAX}) {
            due("what " + what, x.held(0, what), NO_NUMBER);
        }
        says("how many more KEPT, and how many more BROKEN his STICK has than the BOOK tells");
        due("an empty book", x.held(0, 0), 0);
        x.stick(0, 2, 9999);
        x.stick(0, 3, 9999);
        due("all KEPT are more", x.held(0, 0), 9999);
        due("all BROKEN are more", x.held(0, 1), 9999);
        x.deal(0, 1, 1);
        due("BROKEN 9999 stays: one less", x.held(0, 1), 9998);
        x.set(5, 0);
        x.deal(1, 0, 1);
        due("KEPT 9999 stays: one less by what was not noticed", x.held(0, 0), 9998);
        x.stick(0, 0, 4);
        x.deal(0, 1, 1);
        due("one less by what he kept", x.held(0, 0), 9997);
        x.stick(0, 2, 0);
        x.stick(0, 3, 0);
        due("fewer than the book tells", x.held(0, 0), -2);
        due("fewer BROKEN", x.held(0, 1), -1);
        due("as the book tells", x.held(1, 0), 0);
        due("none BROKEN", x.held(1, 1), 0);
        x.stick(1, 3, 5);
        due("BROKEN of the other one", x.held(1, 1), 5);
        NotchSticks y = breaker();
        y.deal(0, 1, 1);
        due("an unlawful one is no KEPT", y.held(0, 0), 0);
        due("an unlawful one is no BROKEN", y.held(0, 1), 0);
        NotchSticks w = new NotchSticks();
        for (int i = 0; i < 4; i++) {
            w.one(i, 4);
        }
        w.deal(0, 2, 1);
        w.deal(2, 3, 1);
        w.deal(3, 0, 2);
        for (int who = 0; who < 4; who++) {
            due("size and age are no one: " + who, w.held(who, 0), 0);
        }
        says("what was noticed and LAWFUL then");
        NotchSticks z = lawfulBreaker();
        z.deal(0, 1, 1);
        z.text(0);
        due("it was LAWFUL then", z.held(0, 1), 0);
    }

    private static void lendEdges() {
        says("one gives k of his KEPT (1 .. 99) to another one, for a price 0 .. 9999; false if one can't be (the same)");
        NotchSticks x = valley(2);
        x.stick(0, 2, 500);
        x.stick(1, 2, 500);
        String before = seen(x);
        int[][] refused = {{0, 1, 0, 1}, {0, 1, 100, 1}, {0, 1, -1, 1}, {0, 1, MIN, 1}, {0, 1, MAX, 1}, {0, 1, 1, -1},
            {0, 1, 1, 10000}, {0, 1, 1, MIN}, {0, 1, 1, MAX}, {0, 0, 1, 1}, {1, 1, 1, 1}, {2, 0, 1, 1}, {0, 2, 1, 1},
            {-1, 0, 1, 1}, {0, -1, 1, 1}, {MIN, 0, 1, 1}, {0, MAX, 1, 1}};
        for (int[] r : refused) {
            due("lend(" + r[0] + ", " + r[1] + ", " + r[2] + ", " + r[3] + ")", x.lend(r[0], r[1], r[2], r[3]), false);
        }
        same("a refused lend()", x, before);
        due("1 for 0", x.lend(0, 1, 1, 0), true);
        due("purse", x.of(0, 7), 0);
        due("99 for 9999", x.lend(0, 1, 99, 9999), true);
        due("KEPT from", x.of(0, 2), 400);
        due("KEPT to", x.of(1, 2), 600);
        due("purse from", x.of(0, 7), 9999);
        due("purse to", x.of(1, 7), -9999);
        due("and again", x.lend(1, 0, 99, 1), true);
        due("purse from", x.of(1, 7), -9998);
        due("purse to", x.of(0, 7), 9998);
        due("once more", x.lend(0, 1, 99, 3), true);
        due("purse from", x.of(0, 7), 10001);
        due("purse to", x.of(1, 7), -10001);
        says("lend: false (not as many)");
        x = valley(2);
        x.stick(0, 2, 5);
        before = seen(x);
        due("six of five", x.lend(0, 1, 6, 1), false);
        same("not as many", x, before);
        due("five of five", x.lend(0, 1, 5, 1), true);
        due("none is left", x.of(0, 2), 0);
        due("one of none", x.lend(0, 1, 1, 1), false);
        says("lend: false (the other one would have more than 9999)");
        x = valley(2);
        x.stick(0, 2, 99);
        x.stick(1, 2, 9995);
        before = seen(x);
        due("up to 10000", x.lend(0, 1, 5, 1), false);
        same("more than 9999", x, before);
        due("up to 9999", x.lend(0, 1, 4, 1), true);
        due("9999", x.of(1, 2), 9999);
        due("one more", x.lend(0, 1, 1, 1), false);
        says("LARGE stays");
        NotchSticks y = marked(valley(2));
        y.stick(0, 6, 3);
        y.lend(0, 1, 20, 7);
        marksAre("who lends", y, 0, 30, 40, 50, 3, 7, 0);
        y.lend(1, 0, 20, 8);
        marksAre("who has them back", y, 20, 30, 40, 50, 3, -1, 0);
    }

    private static void thoughtEdges() {
        says("n YEARS (1 .. 30) with a LAW; NONE - 9999999 if one can't be, or another what");
        NotchSticks x = valley(2);
        x.set(8, 1);
        for (int n : new int[] {0, -1, 31, MIN, MAX}) {
            for (int law = -1; law < 2; law++) {
                due("thought(" + n + ", " + law + ", 0)", x.thought(n, law, 0), NO_NUMBER);
            }
        }
        for (int law : new int[] {-2, 2, MIN, MAX}) {
            due("law " + law, x.thought(1, law, 0), NO_NUMBER);
        }
        for (int what : new int[] {-1, 4, MIN, MAX}) {
            due("what " + what, x.thought(1, 0, what), NO_NUMBER);
            due("what " + what + " of law 1", x.thought(1, 1, what), NO_NUMBER);
        }
        due("n 1", x.thought(1, 0, 1), 1);
        due("n 30", x.thought(30, 1, 1), 30);
        due("purses", x.thought(30, 1, 0), 180);
        NotchSticks all = valley(12);
        due("twelve people", all.thought(1, 0, 0), 24);
        due("twelve people, both laws", all.thought(1, -1, 0), 0);
        says("law NONE: BETTER (what not asked): of both LAWS that with which more comes to PURSES (of both 0)");
        for (int what : new int[] {-1, 0, 3, 4, MIN, MAX}) {
            due("as much: 0, what " + what, x.thought(30, -1, what), 0);
        }
        NotchSticks y = breaker();
        y.set(8, 1);
        tell(y, 1, "may when 1=1;");
        due("less by the fine", y.thought(3, 0, 0), -15);
        due("without it", y.thought(3, 1, 0), 3);
        due("law 1 is better", y.thought(3, -1, 0), 1);
        y.set(9, 1);
        due("whichever is in force", y.thought(3, -1, 0), 1);
        due("law 0 in thought", y.thought(3, 0, 0), -15);
        tell(y, 0, "may when 1=1;");
        due("both alike", y.thought(3, -1, 0), 0);
        y.text(1);
        due("law 0 is better", y.thought(3, -1, 0), 0);
        y.set(4, 0);
        due("as much again", y.thought(3, -1, 0), 0);
        NotchSticks w = breaker();
        w.set(1, 0);
        w.set(4, 0);
        w.set(6, 9);
        tell(w, 1, "may when 1=1;");
        due("one deal by law 0: less is lost", w.thought(2, 0, 0), -4);
        due("eight by law 1", w.thought(2, 1, 0), -32);
        due("law 0 is better, though there are fewer deals", w.thought(2, -1, 0), 0);
        tell(w, 0, "may when 1=1;");
        w.text(1);
        due("law 1 is better, though there are fewer deals", w.thought(2, -1, 0), 1);
        says("how many DEALS, how many breaks (noticed or not), UNLAWFUL ones");
        NotchSticks v = valley(2);
        due("nobody breaks", v.thought(2, 0, 2), 0);
        tell(v, 2, "break when 1=1;");
        v.stick(0, 0, 0);
        v.stick(1, 0, 0);
        due("both break", v.thought(2, 0, 2), 4);
        due("both are UNLAWFUL", v.thought(2, 0, 3), 4);
        int[] unlawful = {0, 3, 3, 3};
        for (int what = 1; what < 4; what++) {
            due("unlawful, what " + what, y.thought(3, 1, what), unlawful[what]);
            due("lawful, what " + what, y.thought(3, 0, what), what == 3 ? 0 : 3);
        }
        y.set(5, 0);
        due("breaks that are not noticed", y.thought(3, 1, 2), 3);
        due("are not UNLAWFUL", y.thought(3, 1, 3), 0);
        says("IN THOUGHT: what was ahead of it does not count");
        y.set(5, 1000);
        y.deal(0, 1, 5);
        y.stick(0, 6, 0);
        due("breaks", y.thought(1, 1, 2), 1);
        due("UNLAWFUL ones", y.thought(1, 1, 3), 1);
        due("deals", y.thought(1, 1, 1), 1);
        due("purses", y.thought(1, 1, 0), 1);
        says("IN THOUGHT the BOOK has 300 at most");
        NotchSticks z = valley(2);
        z.set(8, 20);
        due("600 deals have no room", z.thought(30, 0, 1), 300);
        due("300 have", z.thought(15, 0, 1), 300);
        z.years(14);
        due("20 have", z.thought(30, 0, 1), 20);
        z.years(1);
        due("none has", z.thought(1, 0, 1), 0);
        due("nothing comes of none", z.thought(30, 0, 0), 0);
    }

    private static void thoughtLeavesNothing() {
        says("IN THOUGHT (nothing of it stays, STATE too)");
        NotchSticks x = marked(breaker());
        x.set(5, 500);
        x.set(7, 21);
        x.deal(0, 1, 2);
        x.stick(0, 6, 2);
        x.state(4711);
        String before = seen(x);
        for (int law = -1; law < 2; law++) {
            for (int what = 0; what < 4; what++) {
                x.thought(30, law, what);
            }
        }
        same("thought()", x, before);
        due("the same again", x.thought(7, 0, 0), x.thought(7, 0, 0));
        says("thought: 'beyond YEAR 999' is of years() alone");
        NotchSticks y = valley(2);
        y.set(8, 0);
        for (int i = 0; i < 16; i++) {
            y.years(60);
        }
        y.years(39);
        y.set(8, 1);
        due("a year behind 999", y.thought(1, 0, 1), 1);
        due("thirty years behind 999", y.thought(30, 1, 1), 30);
        due("better behind 999", y.thought(30, -1, 1), 0);
        due("it stays 999", y.look(1), 999);
        says("IN THOUGHT what comes is what years() bring");
        NotchSticks z = breaker();
        z.set(5, 300);
        weights(z, 1, 2, 5, 1, 12, 3);
        z.state(99);
        int purses = z.thought(9, 0, 0);
        int deals = z.thought(9, 0, 1);
        int breaks = z.thought(9, 0, 2);
        int unlawful = z.thought(9, 0, 3);
        due("deals", z.years(9), deals);
        due("purses", z.of(0, 7) + z.of(1, 7), purses);
        due("unlawful", z.of(0, 8) + z.of(1, 8), unlawful);
        int broke = 0;
        for (int year = 0; year < 9; year++) {
            broke += z.annals(year, 2);
        }
        due("breaks", broke, breaks);
    }

    private static void toldEdges() {
        says("SIZES TOLD (1 .. 12): NONE - 99 if there is none, one can't be, or another what");
        NotchSticks x = valley(2);
        due("none", x.told(0, 1, 0), NO_SIZE);
        due("none, less", x.told(0, 1, 1), NO_SIZE);
        tell(x, 0, "may when 1=1;");
        for (int who : new int[] {-1, 2, 12, MIN, MAX}) {
            due("told(" + who + ", 1, 0)", x.told(who, 1, 0), NO_SIZE);
        }
        for (int size : new int[] {0, 13, -1, MIN, MAX}) {
            due("told(0, " + size + ", 0)", x.told(0, size, 0), NO_SIZE);
            due("told(0, " + size + ", 1)", x.told(0, size, 1), NO_SIZE);
        }
        for (int what : new int[] {-1, 2, MIN, MAX}) {
            due("what " + what, x.told(0, 1, what), NO_SIZE);
        }
        says("the least size that he would have to tell, so that a break would be LAWFUL; how much less or more that is");
        due("1", x.told(0, 12, 0), 1);
        due("11 less", x.told(0, 12, 1), -11);
        due("as it is", x.told(0, 1, 1), 0);
        tell(x, 0, "may when size>11;");
        due("12", x.told(0, 1, 0), 12);
        due("11 more", x.told(0, 1, 1), 11);
        due("as it is", x.told(0, 12, 1), 0);
        tell(x, 0, "may when size>12;may when size<1;");
        due("none of 1 .. 12", x.told(0, 5, 0), NO_SIZE);
        tell(x, 0, "may when size=9;may when size=4;");
        due("the least of both", x.told(0, 9, 0), 4);
        due("5 less, though it is LAWFUL as it is", x.told(0, 9, 1), -5);
        tell(x, 0, "may when size=age-15;");
        due("by his own AGE", x.told(0, 1, 0), 5);
        due("by the other one's", x.told(1, 1, 0), 6);
    }

    private static void imageEdges() {
        says("image: gone back to (false): false if there is none");
        NotchSticks x = marked(lawfulBreaker());
        x.deal(0, 1, 3);
        String before = seen(x);
        due("none", x.image(false), false);
        same("no image", x, before);
        due("none still", x.image(false), false);
        due("taken", x.image(true), true);
        same("an image taken", x, before);
        due("gone back", x.image(false), true);
        same("gone back at once", x, before);
        says("THE IMAGE: all that is and was told; gone back to it may be more than once");
        x = marked(lawfulBreaker());
        x.deal(0, 1, 3);
        x.image(true);
        before = seen(x);
        for (int again = 0; again < 2; again++) {
            x.stick(0, 0, 3);
            x.deal(1, 0, 9);
            x.years(2);
            x.one(7, 2);
            x.set(9, 1);
            x.set(22, 50);
            x.set(0, 70);
            x.text(0);
            x.text(2);
            x.state(1234);
            due("all is other", seen(x).equals(before), false);
            due("gone back", x.image(false), true);
            same("gone back", x, before);
        }
    }

    private static void imageAgain() {
        says("THE IMAGE: as it was when it was taken");
        NotchSticks x = valley(2);
        x.deal(0, 1, 1);
        x.image(true);
        x.deal(0, 1, 2);
        x.image(true);
        x.deal(0, 1, 3);
        x.image(false);
        due("the later one", x.look(2), 2);
        x.deal(1, 0, 12);
        x.image(false);
        x.deal(0, 1, 5);
        due("what came behind it is gone", x.book(2, 3), 5);
        due("what was ahead of it is there", x.book(1, 3), 2);
        x.image(false);
        due("nothing behind it", x.book(2, 3), NONE);
        due("a new one is as new", x.one(50, 1), 2);
        x.stick(2, 2, 9);
        x.image(false);
        due("he is gone", x.of(2, 2), NO_NUMBER);
        due("comes anew", x.one(51, 4), 2);
        due("without notches", x.of(2, 2), 0);
        says("THE IMAGE: texts as they were");
        NotchSticks z = breaker();
        tell(z, 0, "may when size<5;");
        tell(z, 1, "may when size>5;");
        z.image(true);
        for (int k = 0; k < 6; k++) {
            z.text(k);
        }
        due("empty", z.would(0, 1, 1, 1) + z.would(0, 1, 1, 2), 0);
        z.image(false);
        due("rule 0", z.would(0, 1, 1, 1), 1);
        due("law 0", z.would(0, 1, 4, 2), 1);
        z.set(9, 1);
        due("law 1", z.would(0, 1, 6, 2), 1);
        says("THE IMAGE: all but the TAPE and fault()");
        NotchSticks y = valley(2);
        tell(y, 0, "may when 1/0=1;");
        feedText(y, "may when 1=1;");
        y.image(true);
        y.end(5);
        y.image(false);
        due("the tape stays as it is", y.end(6), false);
        due("and has five", y.end(5), true);
        due("fault() too", y.fault(0), 2);
        tell(y, 1, "x");
        y.image(false);
        due("the latest fault()", y.fault(0), 1);
        due("its place", y.fault(1), 0);
        feedText(y, "may when 1=1;");
        y.image(false);
        due("a tape that came behind it stays", y.text(0), 1);
    }

    private static void tapeEdges() {
        says("feed: Twenty bytes come behind the TAPE: how many it has. NONE, and nothing comes, if there would be more than 400");
        NotchSticks x = new NotchSticks();
        int blank = 0x20202020;
        for (int i = 1; i <= 20; i++) {
            due("feed " + i, x.feed(blank, blank, blank, blank, blank), 20 * i);
        }
        due("above 400", x.feed(blank, blank, blank, blank, blank), NONE);
        due("400 still", x.end(401), false);
        due("all 400", x.end(400), true);
        for (int n = 399; n > 380; n -= 6) {
            due("end(" + n + ")", x.end(n), true);
            due("with " + n, x.feed(0, 0, 0, 0, 0), NONE);
            due("nothing came", x.end(n + 1), false);
        }
        due("end(380)", x.end(380), true);
        due("with 380", x.feed(blank, blank, blank, blank, blank), 400);
        due("only blanks", x.text(0), 0);
        due("end(1) of an empty one", x.end(1), false);
        due("one of 19 more", x.feed(blank, blank, blank, blank, blank), 20);
        due("19", x.end(19), true);
        due("39", x.feed(blank, blank, blank, blank, blank), 39);
        says("feed: of each number the highest first");
        x.end(0);
        due("may when 1<2+3;may ..", x.feed(0x6d617920, 0x7768656e, 0x20313c32, 0x2b333b6d, 0x61792077), 20);
        due("hen 2=2;", x.feed(0x68656e20, 0x323d323b, 0x20202020, 0x0a0a0a0a, 0x200a200a), 40);
        due("two lines", x.text(0), 2);
        x.feed(0xff6d6179, 0, 0, 0, 0);
        x.text(0);
        due("a byte 255", x.fault(1), 0);
        x.feed(0x6d617980, 0, 0, 0, 0);
        x.text(0);
        due("a byte 128", x.fault(1), 3);
        says("feed: what does not come leaves the TAPE as it is");
        NotchSticks y = new NotchSticks();
        feedText(y, "may when 1=" + times(193, "1+") + "11;");
        due("no room", y.feed(0, 0, 0, 0, 0), NONE);
        due("it can be read", y.text(0), 1);
        says("end: The TAPE has its first n bytes alone: true; false, changing nothing, if it has not so many, or n is below 0");
        feedText(y, "may when 1=1;may when 1=1;");
        for (int n : new int[] {27, 400, -1, MIN, MAX}) {
            due("end(" + n + ")", y.end(n), false);
        }
        due("26", y.end(26), true);
        due("13", y.end(13), true);
        due("14", y.end(14), false);
        due("one line is left", y.text(0), 1);
        due("0 of none", y.end(0), true);
        due("1 of none", y.end(1), false);
        due("-1 of none", y.end(-1), false);
        feedText(y, "x");
        due("to none", y.end(0), true);
        due("the empty text", y.text(0), 0);
        feedText(y, "may when 1=2");
        y.end(11);
        y.feed(0x313b2020, blank, blank, blank, blank);
        due("behind what is left", y.text(0), 1);
        y.one(20, 4);
        y.one(20, 4);
        due("is 1=1", y.would(0, 1, 1, 2), 1);
    }

    private static void textEdges() {
        says("text: The TAPE, empty then, is TEXT k (0 .. 5): how many lines");
        NotchSticks x = valley(2);
        for (int k = 0; k < 6; k++) {
            due("text(" + k + ")", tell(x, k, k < 2 ? "may when 1=1;may when 1=1;" : "deal when 1=1;break when 1=1;"), 2);
            due("empty then", x.end(1), false);
            due("an empty one", x.text(k), 0);
        }
        says("text: as often as it is told");
        for (int size = 1; size <= 12; size++) {
            due("a long text", tell(x, 0, "may when size=" + size + " and 80=" + times(79, "1+") + "1;"), 1);
            due("is so of its size", x.would(0, 1, size, 2), 1);
            due("is not so of another", x.would(0, 1, size % 12 + 1, 2), 0);
        }
        says("text: NONE: no such one (fault() tells 0)");
        x = valley(2);
        tell(x, 0, "may when size=3;");
        tell(x, 2, "break when size=3;");
        x.stick(0, 0, 0);
        String before = seen(x);
        for (int k : new int[] {-1, 6, 7, MIN, MAX}) {
            tell(x, 0, "x");
            due("a fault ahead of it", x.fault(0), 1);
            feedText(x, "may when 1=1;");
            due("text(" + k + ")", x.text(k), NONE);
            due("fault(0)", x.fault(0), 0);
            due("fault(1)", x.fault(1), NONE);
            due("the TAPE is empty", x.end(1), false);
            feedText(x, "may when");
            due("text(" + k + ") of what is no text", x.text(k), NONE);
            due("fault(0)", x.fault(0), 0);
        }
        same("no such text", x, before);
        says("text: NONE: a FAULT (it stays as it was)");
        for (int k = 0; k < 6; k++) {
            feedText(x, k < 2 ? "may when 1=1;may when 1/0=1;" : "break when 1=1;deal when 1=2;x");
            due("text(" + k + ")", x.text(k), NONE);
            due("the TAPE is empty", x.end(1), false);
        }
        same("a text with a FAULT", x, before);
    }

    private static void faultEdges() {
        says("Of the latest text(): what 0 the FAULT (0 without one), 1 its place (NONE). NONE for another what.");
        NotchSticks x = new NotchSticks();
        due("without a text()", x.fault(0), 0);
        due("place without a text()", x.fault(1), NONE);
        tell(x, 0, "may when 1/0=1;");
        due("fault", x.fault(0), 2);
        due("place", x.fault(1), 11);
        for (int what : new int[] {-1, 2, MIN, MAX}) {
            due("what " + what, x.fault(what), NONE);
        }
        feedText(x, "may");
        x.end(1);
        x.set(0, 1);
        due("still of the latest text()", x.fault(0), 2);
        x.text(0);
        due("of the latest", x.fault(0), 1);
        due("place 0", x.fault(1), 0);
        x.text(0);
        due("without one", x.fault(0), 0);
        due("place without one", x.fault(1), NONE);
    }

    private static void ofEdges() {
        says("of: NONE - 9999999 if there is none such, or another what");
        NotchSticks x = valley(3);
        for (int who : new int[] {-1, 3, 11, 12, MIN, MAX}) {
            for (int what = 0; what < 9; what++) {
                due("of(" + who + ", " + what + ")", x.of(who, what), NO_NUMBER);
            }
        }
        for (int what : new int[] {-1, 9, MIN, MAX}) {
            due("of(0, " + what + ")", x.of(0, what), NO_NUMBER);
        }
        due("of(2, 0)", x.of(2, 0), 4);
        due("of(2, 1)", x.of(2, 1), 22);
        due("of(2, 8)", x.of(2, 8), 0);
    }

    private static void wouldEdges() {
        says("would: NONE if one can't be (the same), or another what");
        NotchSticks x = valley(2);
        int[][] refused = {{0, 0, 1, 0}, {1, 1, 1, 0}, {2, 2, 1, 0}, {0, 2, 1, 0}, {2, 0, 1, 0}, {-1, 0, 1, 0}, {0, -1, 1, 0},
            {MIN, 0, 1, 0}, {0, MAX, 1, 0}, {0, 1, 0, 0}, {0, 1, 13, 0}, {0, 1, -1, 0}, {0, 1, MIN, 0}, {0, 1, MAX, 0},
            {0, 1, 1, -1}, {0, 1, 1, 3}, {0, 1, 1, MIN}, {0, 1, 1, MAX}, {0, 0, 1, 2}, {0, 1, 13, 2}, {0, 2, 1, 1}};
        for (int[] r : refused) {
            due("would(" + r[0] + ", " + r[1] + ", " + r[2] + ", " + r[3] + ")", x.would(r[0], r[1], r[2], r[3]), NONE);
        }
        for (int size : new int[] {1, 12}) {
            due("deals", x.would(0, 1, size, 0), 1);
            due("breaks", x.would(1, 0, size, 1), 0);
            due("lawful", x.would(0, 1, size, 2), 0);
        }
    }

    private static void bookEdges() {
        says("book: NONE if there is none such, or another what");
        NotchSticks x = valley(2);
        for (int what = 0; what < 8; what++) {
            due("an empty book", x.book(0, what), NONE);
        }
        x.deal(0, 1, 12);
        int[] want = {0, 0, 1, 12, 0, 0, 20, 21};
        for (int what = 0; what < 8; what++) {
            due("book(0, " + what + ")", x.book(0, what), want[what]);
            for (int i : new int[] {-1, 1, 300, MIN, MAX, 1 << 29, 536870913}) {
                due("book(" + i + ", " + what + ")", x.book(i, what), NONE);
            }
        }
        for (int what : new int[] {-1, 8, MIN, MAX}) {
            due("book(0, " + what + ")", x.book(0, what), NONE);
        }
    }

    private static void lookEdges() {
        says("look: 10 + k what was told as set() k (k 0 .. 9, 11 .. 22). NONE for another what.");
        NotchSticks x = new NotchSticks();
        for (int what : new int[] {-1, 4, 5, 6, 7, 8, 9, 20, 33, 34, MIN, MIN + 9, MIN + 10, MAX}) {
            due("look(" + what + ")", x.look(what), NONE);
        }
        for (int k = 0; k < 23; k++) {
            x.set(k, k < 9 ? k + 1 : 1);
        }
        for (int k = 0; k < 23; k++) {
            due("look(" + (10 + k) + ")", x.look(10 + k), k == 10 ? NONE : k < 9 ? k + 1 : 1);
        }
        due("all weights", x.look(3), 12);
        for (int size = 1; size <= 12; size++) {
            x.set(10 + size, 99);
        }
        due("all weights at the most", x.look(3), 1188);
        weights(x);
        due("all weights at the least", x.look(3), 0);
    }
}
