/** For each promise of the document what is ordinary, the edges that it names, and wrong inputs. */
public final class PromiseTests {
    private static final int NO_NUMBER = -10000000;
    private static final int NO_WORTH = -1000000000;
    private static final int MIN = Integer.MIN_VALUE;
    private static final int MAX = Integer.MAX_VALUE;
    private static int wrong = 0;
    private static int checks = 0;

    private static void due(String call, long got, long want) {
        checks++;
        if (got != want) {
            wrong++;
            System.out.println(call + " answered " + got + ", due is " + want);
        }
    }

    private static void due(String call, boolean got, boolean want) {
        due(call, got ? 1 : 0, want ? 1 : 0);
    }

    public static void main(String[] args) {
        newObject();
        state();
        one();
        stick();
        set();
        feedAndEnd();
        text();
        faultsOfTexts();
        valuesInTexts();
        fault();
        of();
        would();
        deal();
        dealUnnoticed();
        bookIsFull();
        book();
        years();
        yearsCutAndOut();
        plan();
        longer();
        common();
        pair();
        holds();
        safe();
        named();
        annals();
        rests();
        whom();
        trust();
        held();
        lend();
        thought();
        thoughtBeyondTheLastYear();
        told();
        image();
        look();
        System.out.println(checks + " checks, " + wrong + " wrong");
        if (wrong != 0) {
            System.exit(1);
        }
    }

    /** Feeds a text of any length up to 400 and ends the tape behind it. */
    private static void feedText(NotchSticks x, String s) {
        for (int i = 0; i < s.length(); i += 20) {
            int[] five = new int[5];
            for (int j = 0; j < 20; j++) {
                int c = i + j < s.length() ? s.charAt(i + j) : ' ';
                five[j / 4] = five[j / 4] << 8 | c;
            }
            x.feed(five[0], five[1], five[2], five[3], five[4]);
        }
        x.end(s.length());
    }

    private static int tell(NotchSticks x, int k, String s) {
        feedText(x, s);
        return x.text(k);
    }

    /** n people of age 20, 21 .. without a rule. */
    private static NotchSticks valley(int n) {
        NotchSticks x = new NotchSticks();
        for (int i = 0; i < n; i++) {
            x.one(20 + i, 4);
        }
        return x;
    }

    private static String times(int n, String s) {
        StringBuilder b = new StringBuilder();
        for (int i = 0; i < n; i++) {
            b.append(s);
        }
        return b.toString();
    }

    private static void newObject() {
        NotchSticks x = new NotchSticks();
        due("1 NONE", NotchSticks.NONE, -1);
        due("1 nobody", x.look(0), 0);
        due("1 year", x.look(1), 0);
        due("1 book", x.look(2), 0);
        int[] first = {3, 5, 4, 1, 6, 1000, 1, 0, 4, 0, -1, 1, 0, 0, 0, 0, 0, 0, 0, 0, 0, 0, 0};
        for (int k = 0; k < first.length; k++) {
            due("1 look(10 + " + k + ")", x.look(10 + k), first[k]);
        }
        due("1 no image", x.image(false), false);
        due("1 no fault", x.fault(0), 0);
        due("1 no place", x.fault(1), -1);
        due("1 empty tape", x.end(1), false);
        due("1 empty tape, 0", x.end(0), true);
        x.one(1, 0);
        due("1 another object has its own", new NotchSticks().look(0), 0);
    }

    private static void state() {
        NotchSticks x = valley(3);
        due("2 at first", x.state(77), 0);
        due("2 what it was", x.state(MIN), 77);
        due("2 any int", x.state(0), MIN);
        x.set(8, 1);
        x.years(1);
        int s = 0;
        for (int i = 0; i < 3; i++) {
            s = 1664525 * s + 1013904223;
        }
        due("2 three draws of a deal", x.state(5), s);
        x.set(8, 0);
        x.years(1);
        due("2 no draw without deals", x.state(5), 5);
    }

    private static void one() {
        NotchSticks x = new NotchSticks();
        due("3 age -1", x.one(-1, 0), -1);
        due("3 age 100", x.one(100, 0), -1);
        due("3 rule -1", x.one(5, -1), -1);
        due("3 rule 5", x.one(5, 5), -1);
        due("3 far off", x.one(MAX, MIN), -1);
        due("3 nobody came", x.look(0), 0);
        due("3 first", x.one(0, 0), 0);
        due("3 second", x.one(99, 4), 1);
        due("3 rule", x.of(1, 0), 4);
        due("3 age", x.of(1, 1), 99);
        for (int what = 2; what < 9; what++) {
            due("3 else 0", x.of(1, what), 0);
        }
        for (int i = 2; i < 12; i++) {
            due("3 number", x.one(i, i % 5), i);
        }
        due("3 the 13th", x.one(5, 4), -1);
        due("3 twelve", x.look(0), 12);
    }

    private static void stick() {
        NotchSticks x = valley(2);
        int[] most = {4, 99, 9999, 9999, 9999, 9999, 9};
        for (int what = 0; what < 7; what++) {
            due("4 most " + what, x.stick(1, what, most[what]), true);
            due("4 is " + what, x.of(1, what), most[what]);
            due("4 above " + what, x.stick(1, what, most[what] + 1), false);
            due("4 below " + what, x.stick(1, what, -1), false);
            due("4 far " + what, x.stick(1, what, MAX), false);
            due("4 stays " + what, x.of(1, what), most[what]);
            due("4 zero " + what, x.stick(1, what, 0), true);
            due("4 is zero " + what, x.of(1, what), 0);
        }
        due("4 what 7", x.stick(1, 7, 1), false);
        due("4 what -1", x.stick(1, -1, 1), false);
        due("4 what far", x.stick(1, MAX, 1), false);
        due("4 nobody", x.stick(2, 1, 1), false);
        due("4 who -1", x.stick(-1, 1, 1), false);
        due("4 who far", x.stick(MIN, 1, 1), false);
        due("4 the other stays", x.of(0, 1), 20);
    }

    private static void set() {
        NotchSticks x = new NotchSticks();
        int[] most = {99, 99, 99, 99, 99, 1000, 9, 99, 20, 1, -1, 99, 99, 99, 99, 99, 99, 99, 99, 99, 99, 99, 99};
        for (int what = 0; what < most.length; what++) {
            boolean is = what != 10;
            due("5 most " + what, x.set(what, Math.max(0, most[what])), is);
            due("5 above " + what, x.set(what, most[what] + 1), false);
            due("5 below " + what, x.set(what, -1), false);
            due("5 is " + what, x.look(10 + what), most[what]);
            due("5 zero " + what, x.set(what, 0), is);
            due("5 is zero " + what, x.look(10 + what), is ? 0 : -1);
        }
        due("5 what 23", x.set(23, 0), false);
        due("5 what -1", x.set(-1, 0), false);
        due("5 what far", x.set(MAX, 0), false);
        due("5 what far below", x.set(MIN, 0), false);
    }

    private static void feedAndEnd() {
        NotchSticks x = new NotchSticks();
        for (int i = 1; i <= 20; i++) {
            due("6 how many", x.feed(0x20202020, 0x20202020, 0x20202020, 0x20202020, 0x20202020), 20 * i);
        }
        due("6 full", x.feed(0, 0, 0, 0, 0), -1);
        due("7 too many", x.end(401), false);
        due("7 below 0", x.end(-1), false);
        due("7 far", x.end(MAX), false);
        due("7 all", x.end(400), true);
        due("7 fewer", x.end(381), true);
        due("6 no room for twenty", x.feed(0, 0, 0, 0, 0), -1);
        due("7 nothing came", x.end(382), false);
        due("7 one fewer", x.end(380), true);
        due("6 room for twenty", x.feed(0x20202020, 0x20202020, 0x20202020, 0x20202020, 0x20202020), 400);
        due("6 only blanks", x.text(0), 0);
        due("6 empty then", x.feed(0, 0, 0, 0, 0), 20);
        due("7 to nothing", x.end(0), true);
        due("7 is nothing", x.end(1), false);
        // "may when 1=1;" with its bytes over the borders of the numbers.
        due("6 bytes, the highest first", x.feed(0x6d617920, 0x7768656e, 0x20313d31, 0x3b202020, 0x20202020), 20);
        due("6 read", x.text(1), 1);
    }

    private static void text() {
        NotchSticks x = valley(2);
        due("8 empty", x.text(0), 0);
        due("8 no such one", x.text(6), -1);
        due("8 no such one below", x.text(-1), -1);
        due("8 no such one far", x.text(MIN), -1);
        for (int k : new int[] {-1, 6, MIN, MAX}) {
            feedText(x, "may when 1=1;");
            due("8 no such one with a tape", x.text(k), -1);
            due("8 the tape is empty behind no such one", x.end(1), false);
            due("8 the tape begins anew", x.feed(0, 0, 0, 0, 0), 20);
            x.end(0);
        }
        due("8 nothing was told", x.would(0, 1, 1, 2), 0);
        due("8 one line", tell(x, 0, "may when size<3;"), 1);
        feedText(x, "may when");
        x.text(6);
        due("8 it stays with no such one", x.would(0, 1, 2, 2), 1);
        due("8 two lines", tell(x, 2, "deal when 1=1;\nbreak when 1=2;"), 2);
        due("8 sixteen lines", tell(x, 0, times(16, "may when size<4;")), 16);
        due("8 lawful by it", x.would(0, 1, 3, 2), 1);
        due("8 fault", tell(x, 0, "may when size<9"), -1);
        due("8 it stays as it was", x.would(0, 1, 4, 2), 0);
        due("8 it stays as it was, too", x.would(0, 1, 3, 2), 1);
        due("8 the tape is empty behind a fault", x.end(1), false);
        due("8 a text may be empty again", x.text(0), 0);
        due("8 nothing is lawful then", x.would(0, 1, 3, 2), 0);
        due("8 laws know no other one", tell(x, 1, "may when okept>0;"), -1);
        due("8 laws know no purse", tell(x, 1, "may when purse>0;"), -1);
        due("8 laws do not deal", tell(x, 1, "deal when 1=1;"), -1);
        due("8 rules have no may", tell(x, 5, "may when 1=1;"), -1);
        due("8 rules know all", tell(x, 5, "break when kept+broken+large+lost+size+age+year+okept+obroken+olarge+olost"
            + "+oage+lawful+olawful+purse>9;"), 1);
        due("8 laws know these", tell(x, 1, "may when kept+broken+large+lost+size+age+year>9;"), 1);
        due("8 400 bytes", tell(x, 1, times(16, "may when size< 4 ; \n" + "     ")), 16);
    }

    private static void faulty(int k, String s, int kind, int place) {
        NotchSticks x = new NotchSticks();
        int lines = tell(x, k, s);
        due("8 '" + s + "' lines", lines < 0 ? 1 : 0, kind == 0 ? 0 : 1);
        due("9 '" + s + "' fault", x.fault(0), kind);
        due("9 '" + s + "' place", x.fault(1), place);
    }

    private static void faultsOfTexts() {
        faulty(0, "", 0, -1);
        faulty(0, " \n ", 0, -1);
        faulty(0, "may when 1=1;", 0, -1);
        faulty(0, "may when 1=1", 1, 12);
        faulty(0, "may when 1=1  ", 1, 14);
        faulty(0, "may when 1=1;;", 1, 13);
        faulty(0, "may", 1, 3);
        faulty(0, "may ", 1, 4);
        faulty(0, "maywhen 1=1;", 1, 0);
        faulty(0, "May when 1=1;", 1, 0);
        faulty(0, "mayX when 1=1;", 1, 0);
        faulty(0, "mayA when 1=1;", 1, 0);
        faulty(0, "mayZ when 1=1;", 1, 0);
        faulty(0, "may[ when 1=1;", 1, 3);
        faulty(0, "may@ when 1=1;", 1, 3);
        faulty(0, times(400, ";"), 1, 0);
        faulty(0, "may when 1=" + times(194, "1+") + "1", 1, 400);
        faulty(0, "may when 1=" + times(193, "1+") + "11;", 0, -1);
        faulty(0, "may when\t1=1;", 1, 8);
        faulty(0, "may when 1=1;\r", 1, 13);
        faulty(0, "may when 1=\u00e91;", 1, 11);
        faulty(0, "may when1=1;", 0, -1);
        faulty(0, "may when 1=1or 2=2and 3=3;", 0, -1);
        faulty(0, "may\nwhen\n1\n=\n1\n;", 0, -1);
        faulty(0, "may when 1;", 1, 10);
        faulty(0, "may when 1=1=1;", 1, 12);
        faulty(0, "may when 1<;", 1, 11);
        faulty(0, "may when 1<=1;", 1, 11);
        faulty(0, "may when -1<1;", 1, 9);
        faulty(0, "may when 1 1<1;", 1, 11);
        faulty(0, "may when 9999=1;", 0, -1);
        faulty(0, "may when 10000=1;", 1, 9);
        faulty(0, "may when 00001=1;", 1, 9);
        faulty(0, "may when 0001=1;", 0, -1);
        faulty(0, "may when 1age=1;", 1, 10);
        faulty(0, "may when age1=1;", 1, 12);
        faulty(0, "may when size/0=1;", 2, 14);
        faulty(0, "may when size/ 000=1;", 2, 15);
        faulty(0, "may when size/00000=1;", 1, 14);
        faulty(0, "may when size/age=1;", 1, 14);
        faulty(0, "may when size/kept=1;", 1, 14);
        faulty(0, "may when size/(1)=1;", 1, 14);
        faulty(0, "may when size*0=1;", 0, -1);
        faulty(0, "may when size/2/3*age/4=1;", 0, -1);
        faulty(0, "may when 8/2*;", 1, 13);
        faulty(0, "may when (1)=1;", 1, 11);
        faulty(0, "may when (1=1;", 1, 13);
        faulty(0, "may when 1=1);", 1, 12);
        faulty(0, "may when ();", 1, 10);
        faulty(0, "may when 1=(1);", 1, 11);
        faulty(0, "may when not;", 1, 12);
        faulty(0, "may when not not 1=1;", 0, -1);
        faulty(0, "may when 1=1 or;", 1, 15);
        faulty(0, "may when 1=1 and or 1=1;", 1, 17);
        faulty(0, "may when 1=1 not 1=1;", 1, 13);
        faulty(0, "may when lawful=1;", 1, 9);
        faulty(2, "break when lawful=1;", 0, -1);
        faulty(2, "may when 1=1;", 1, 0);
        faulty(2, "deal break", 1, 5);
        faulty(1, "break when 1=1;", 1, 0);
        faulty(0, "may when " + times(8, "(") + "1=1" + times(8, ")") + ";", 0, -1);
        faulty(0, "may when " + times(9, "(") + "1=1" + times(9, ")") + ";", 3, 17);
        faulty(0, "may when " + times(8, "not ") + "1=1;", 0, -1);
        faulty(0, "may when " + times(9, "not ") + "1=1;", 3, 41);
        faulty(0, "may when " + times(4, "not(") + "1=1" + times(4, ")") + ";", 0, -1);
        faulty(0, "may when " + times(4, "not(") + "1=1 and not 1=1" + times(4, ")") + ";", 3, 33);
        faulty(0, "may when " + times(4, "not(") + "1=1" + times(4, ")") + " and " + times(8, "(") + "2=2"
            + times(8, ")") + ";", 0, -1);
        faulty(0, "may when " + times(8, "(") + "1=(1)", 1, 19);
        faulty(0, times(16, "may when 1=1;") + "may", 3, 208);
        faulty(0, times(16, "may when 1=1;") + " may when 1=1;", 3, 209);
        faulty(0, times(16, "may when 1=1;") + " when", 1, 209);
        faulty(3, times(8, "deal when 1=1;break when 1=1;") + "deal when 1=1;", 3, 232);
        faulty(0, "may when 1/0=1; may when 1=1", 2, 11);
        faulty(0, "may when 1=1; x 1/0", 1, 14);
    }

    /** A law of one line: is it so of one of age 40, kept 7, broken 2, large 30, lost 9 for size 5? */
    private static void so(String b, boolean want) {
        NotchSticks x = new NotchSticks();
        x.one(40, 4);
        x.one(50, 4);
        x.stick(0, 2, 7);
        x.stick(0, 3, 2);
        x.stick(0, 4, 30);
        x.stick(0, 5, 9);
        tell(x, 0, "may when " + b + ";");
        due("11 " + b, x.would(0, 1, 5, 2), want ? 1 : 0);
    }

    private static void valuesInTexts() {
        so("kept=7 and broken=2 and large=30 and lost=9 and size=5 and age=40 and year=0", true);
        so("1=1 or 1=1 and 1=2", true);
        so("(1=1 or 1=1) and 1=2", false);
        so("not 1=2 and 1=2", false);
        so("not (1=2 and 1=2)", true);
        so("not 1=1 or 1=1", true);
        so("2+3*4=14", true);
        so("2*3+4=10", true);
        so("10-3-2=5", true);
        so("10-3+2=9", true);
        so("7/2*2=6", true);
        so("2*7/2=7", true);
        so("100/7/2=7", true);
        so("7/1=7", true);
        so("0-7/2=0-3", true);
        so("broken-kept/2*2=0-4", true);
        so("9999*9999*9999<0", true);
        so("9999*9999*30<0", true);
        so("9999*9999*50/9999/9999=7", true);
        so("1<2", true);
        so("2<2", false);
        so("2>2", false);
        so("3>2", true);
        so("1+1*0/3-1<0", false);
        so("3-8*2+4<0-8", true);
        NotchSticks x = valley(2);
        tell(x, 0, "may when broken-9 /2 =0-4;");
        due("11 parts of what is negative", x.would(0, 1, 1, 2), 1);
        tell(x, 0, "may when 0-9=0-9 and kept-7*1 /2=0-3;");
        due("11 parts go ahead of less", x.would(0, 1, 1, 2), 1);
        tell(x, 2, "break when purse/2=0-3;");
        x.stick(0, 0, 0);
        x.stick(1, 2, 1);
        x.lend(1, 0, 1, 7);
        due("11 a part goes towards 0", x.would(0, 1, 1, 1), 1);
        tell(x, 1, "may when year=2;");
        x.set(9, 1);
        x.set(8, 0);
        x.years(2);
        due("11 year", x.would(0, 1, 1, 2), 1);
    }

    private static void fault() {
        NotchSticks x = new NotchSticks();
        tell(x, 0, "may when 1/0=1;");
        due("9 fault", x.fault(0), 2);
        due("9 place", x.fault(1), 11);
        due("9 another what", x.fault(2), -1);
        due("9 another what below", x.fault(-1), -1);
        x.text(6);
        due("9 no such text", x.fault(0), 0);
        due("9 no place", x.fault(1), -1);
        tell(x, 0, "x");
        due("9 of the latest", x.fault(0), 1);
        due("9 place 0", x.fault(1), 0);
        x.text(0);
        due("9 without one", x.fault(0), 0);
        due("9 without one, place", x.fault(1), -1);
    }

    private static void of() {
        NotchSticks x = valley(1);
        due("10 rule", x.of(0, 0), 4);
        due("10 age", x.of(0, 1), 20);
        due("10 what 9", x.of(0, 9), NO_NUMBER);
        due("10 what -1", x.of(0, -1), NO_NUMBER);
        due("10 who 1", x.of(1, 0), NO_NUMBER);
        due("10 who -1", x.of(-1, 0), NO_NUMBER);
        due("10 who far", x.of(MAX, MIN), NO_NUMBER);
    }

    private static void would() {
        NotchSticks x = valley(3);
        tell(x, 0, "may when kept>2 and size<5;");
        tell(x, 1, "may when 1=1;");
        due("11 without a rule one deals", x.would(0, 1, 1, 0), 1);
        due("11 without a rule one keeps", x.would(0, 1, 1, 1), 0);
        x.stick(0, 0, 0);
        due("11 with an empty rule one deals", x.would(0, 1, 1, 0), 1);
        due("11 with an empty rule one keeps", x.would(0, 1, 1, 1), 0);
        tell(x, 2, "break when olawful=1; break when lawful=1 and oage=22; deal when okept>0; deal when size=12;");
        due("11 no deal line is so", x.would(0, 1, 11, 0), 0);
        due("11 some deal line is so", x.would(0, 1, 12, 0), 1);
        x.stick(1, 2, 3);
        due("11 another deal line is so", x.would(0, 1, 1, 0), 1);
        due("11 the other one's break is lawful", x.would(0, 1, 4, 1), 1);
        due("11 the other one's break isn't", x.would(0, 1, 5, 1), 0);
        due("11 lawful for him", x.would(0, 2, 4, 2), 0);
        x.stick(0, 2, 3);
        due("11 lawful now", x.would(0, 2, 4, 2), 1);
        due("11 his own break is lawful", x.would(0, 2, 4, 1), 1);
        due("11 not of that size", x.would(0, 2, 5, 1), 0);
        x.set(9, 1);
        due("11 by the law in force", x.would(2, 0, 12, 2), 1);
        x.stick(0, 6, 3);
        due("11 out is not asked", x.would(0, 1, 12, 0), 1);
        String[] names = {"okept", "obroken", "olarge", "olost", "oage", "kept", "broken", "large", "lost", "age"};
        int[] whats = {2, 3, 4, 5, 1, 2, 3, 4, 5, 1};
        x.stick(0, 0, 3);
        for (int i = 0; i < names.length; i++) {
            x.stick(i < 5 ? 1 : 0, whats[i], 60 + i);
            tell(x, 5, "break when " + names[i] + "=" + (60 + i) + ";");
            due("11 " + names[i], x.would(0, 1, 1, 1), 1);
        }
        due("11 the same", x.would(1, 1, 1, 0), -1);
        due("11 size 0", x.would(0, 1, 0, 0), -1);
        due("11 size 13", x.would(0, 1, 13, 0), -1);
        due("11 what 3", x.would(0, 1, 1, 3), -1);
        due("11 what -1", x.would(0, 1, 1, -1), -1);
        due("11 nobody", x.would(0, 3, 1, 0), -1);
        due("11 below", x.would(-1, 1, 1, 0), -1);
    }

    private static void deal() {
        NotchSticks x = valley(4);
        due("12 the same", x.deal(0, 0, 1), -2);
        due("12 nobody", x.deal(0, 4, 1), -2);
        due("12 below", x.deal(-1, 0, 1), -2);
        due("12 size 0", x.deal(0, 1, 0), -2);
        due("12 size 13", x.deal(0, 1, 13), -2);
        due("12 both keep", x.deal(0, 1, 3), 0);
        due("12 purse a", x.of(0, 7), 9);
        due("12 purse b", x.of(1, 7), 9);
        due("12 kept", x.of(1, 2), 1);
        due("12 large", x.of(1, 4), 3);
        tell(x, 2, "break when 1=1;");
        tell(x, 3, "deal when 1=2;");
        tell(x, 0, "may when kept>0;");
        x.stick(0, 0, 0);
        due("12 one breaks", x.deal(1, 0, 2), 1);
        due("12 he has", x.of(0, 7), 19);
        due("12 the other one", x.of(1, 7), 1);
        due("12 broken", x.of(0, 3), 1);
        due("12 lost", x.of(0, 5), 2);
        due("12 kept stays", x.of(0, 2), 1);
        due("12 not out", x.of(0, 6), 0);
        x.stick(2, 0, 0);
        x.set(6, 9);
        due("12 both break", x.deal(2, 0, 4), 2);
        due("12 unlawful: purse", x.of(2, 7), -4 - 24);
        due("12 unlawful", x.of(2, 8), 1);
        due("12 out", x.of(2, 6), 9);
        due("12 nothing on the stick", x.of(2, 3) + x.of(2, 5) + x.of(2, 2), 0);
        due("12 lawful: purse", x.of(0, 7), 15);
        due("12 one is out", x.deal(2, 1, 1), -1);
        due("12 the other one is out", x.deal(1, 2, 1), -1);
        x.stick(3, 0, 1);
        due("12 one does not deal", x.deal(3, 1, 1), -1);
        due("12 the other one does not deal", x.deal(1, 3, 1), -1);
        due("12 nothing came of it", x.look(2), 3);
        x.set(6, 0);
        x.stick(2, 6, 0);
        due("12 exile 0", x.deal(2, 1, 1), 3);
        due("12 not out by exile 0", x.of(2, 6), 0);
        x.stick(1, 2, 9999);
        x.stick(1, 4, 9990);
        x.stick(0, 3, 9999);
        x.stick(0, 5, 9995);
        due("12 at the most", x.deal(0, 1, 12), 4);
        due("12 kept at most", x.of(1, 2), 9999);
        due("12 large at most", x.of(1, 4), 9999);
        due("12 broken at most", x.of(0, 3), 9999);
        due("12 lost at most", x.of(0, 5), 9999);
        // What is lawful is asked ahead: the deal's own notch does not count.
        NotchSticks y = valley(2);
        tell(y, 0, "may when broken=0 and kept=0;");
        tell(y, 2, "break when lawful=1 and obroken=0;");
        y.stick(0, 0, 0);
        y.stick(1, 0, 0);
        due("12 asked ahead", y.deal(0, 1, 1), 0);
        due("12 a", y.book(0, 4), 1);
        due("12 b", y.book(0, 5), 1);
    }

    private static void dealUnnoticed() {
        NotchSticks x = valley(2);
        tell(x, 2, "break when 1=1;");
        x.stick(0, 0, 0);
        x.stick(1, 0, 0);
        x.set(5, 0);
        due("12 unnoticed", x.deal(0, 1, 2), 0);
        due("12 did", x.book(0, 4), 3);
        due("12 other did", x.book(0, 5), 3);
        due("12 as if kept", x.of(0, 2), 1);
        due("12 large as if kept", x.of(0, 4), 2);
        due("12 no fine", x.of(0, 7), -2);
        due("12 two draws", x.state(0), 1664525 * 1013904223 + 1013904223);
        // The first draw of STATE 0 is 3960563 modulo 1000: 563.
        x.set(5, 563);
        x.stick(1, 0, 4);
        due("12 a draw of just NOTICE", x.deal(0, 1, 2), 1);
        due("12 is not below it", x.book(1, 4), 3);
        due("12 one draw", x.state(0), 1013904223);
        x.set(5, 564);
        due("12 a draw below NOTICE", x.deal(0, 1, 2), 2);
        due("12 is noticed", x.book(2, 4), 2);
        x.state(0);
        x.stick(0, 6, 0);
        x.set(5, 1000);
        due("12 always noticed", x.deal(0, 1, 2), 3);
        due("12 without a draw", x.state(0), 0);
        x.stick(0, 6, 0);
        x.set(5, 999);
        x.deal(0, 1, 2);
        due("12 a draw with 999", x.state(0), 1013904223);
        x.set(5, 1000);
        // a is asked first: with STATE 0 the draws are 563 and then the next one's.
        int second = (1664525 * 1013904223 + 1013904223 >>> 8) % 1000;
        x.stick(0, 6, 0);
        x.stick(1, 0, 0);
        x.set(5, Math.max(563, second));
        x.deal(0, 1, 1);
        due("12 a draws first", x.book(5, 4), 563 < Math.max(563, second) ? 2 : 3);
        due("12 b draws then", x.book(5, 5), second < Math.max(563, second) ? 2 : 3);
    }

    private static void bookIsFull() {
        NotchSticks x = valley(2);
        x.set(8, 20);
        due("14 300 deals", x.years(15), 300);
        due("12 without room", x.deal(0, 1, 1), -1);
        due("12 nothing is done", x.of(0, 2), 300);
        int before = x.state(0);
        x.state(before);
        due("14 without room", x.years(1), 0);
        int s = before;
        for (int i = 0; i < 60; i++) {
            s = 1664525 * s + 1013904223;
        }
        due("14 draws all the same", x.state(0), s);
        due("13 the last", x.book(299, 0), 14);
        due("13 none behind", x.book(300, 0), -1);
        due("28 without room", x.thought(1, 0, 1), 0);
    }

    private static void book() {
        NotchSticks y = valley(3);
        y.set(8, 0);
        y.years(3);
        tell(y, 0, "may when age=24;");
        tell(y, 2, "break when 1=1;");
        y.stick(1, 0, 0);
        y.stick(2, 0, 0);
        y.deal(2, 1, 7);
        int[] want = {3, 2, 1, 7, 2, 1, 25, 24};
        for (int what = 0; what < 8; what++) {
            due("13 what " + what, y.book(0, what), want[what]);
        }
        y.stick(2, 1, 90);
        due("13 age then", y.book(0, 6), 25);
        due("13 what 8", y.book(0, 8), -1);
        due("13 what -1", y.book(0, -1), -1);
        due("13 deal 1", y.book(1, 0), -1);
        due("13 deal -1", y.book(-1, 0), -1);
        due("13 far", y.book(MAX, MAX), -1);
    }

    private static void years() {
        NotchSticks x = valley(5);
        due("14 n 0", x.years(0), -1);
        due("14 n 61", x.years(61), -1);
        due("14 n below", x.years(MIN), -1);
        x.set(11, 3);
        x.set(13, 2);
        x.set(22, 4);
        x.set(8, 6);
        x.state(12345);
        due("14 deals", x.years(2), 12);
        int s = 12345;
        for (int i = 0; i < 12; i++) {
            int[] drawn = new int[3];
            int[] of = {5, 4, 9};
            for (int j = 0; j < 3; j++) {
                s = 1664525 * s + 1013904223;
                drawn[j] = (s >>> 8) % of[j];
            }
            int b = drawn[1] < drawn[0] ? drawn[1] : drawn[1] + 1;
            due("14 year", x.book(i, 0), i / 6);
            due("14 a", x.book(i, 1), drawn[0]);
            due("14 b", x.book(i, 2), b);
            due("14 size", x.book(i, 3), drawn[2] < 3 ? 1 : drawn[2] < 5 ? 3 : 12);
        }
        due("14 year is", x.look(1), 2);
        due("14 ages", x.of(4, 1), 26);
        NotchSticks y = valley(1);
        due("14 one alone", y.years(60), 0);
        due("14 no draws", y.state(0), 0);
        due("14 older", y.of(0, 1), 80);
        due("14 at most 99", y.years(60), 0);
        due("14 is 99", y.of(0, 1), 99);
        for (int i = 0; i < 14; i++) {
            y.years(60);
        }
        due("14 year 960", y.look(1), 960);
        due("14 beyond 999", y.years(40), -1);
        due("14 nothing is done", y.look(1), 960);
        y.years(10);
        due("28 to 999", y.thought(29, 0, 0), 0);
        due("28 beyond 999", y.thought(30, 0, 0), 0);
        due("28 better beyond 999", y.thought(30, -1, 0), 0);
        due("28 beyond 999, another what", y.thought(30, 0, 4), NO_NUMBER);
        due("14 to 999", y.years(29), 0);
        due("14 is 999", y.look(1), 999);
        due("14 no more", y.years(1), -1);
        due("28 more in thought", y.thought(1, 0, 0), 0);
        due("28 years behind the last in thought", y.thought(30, 1, 1), 0);
        due("28 the last year stays", y.look(1), 999);
    }

    private static void yearsCutAndOut() {
        NotchSticks x = valley(2);
        x.set(8, 0);
        x.set(7, 21);
        for (int what = 2; what < 6; what++) {
            x.stick(0, what, 10 * what);
            x.stick(1, what, 10 * what);
        }
        x.stick(0, 6, 2);
        x.years(1);
        for (int what = 2; what < 6; what++) {
            due("14 cut", x.of(0, what), 0);
            due("14 not cut", x.of(1, what), 10 * what);
        }
        due("14 out one less", x.of(0, 6), 1);
        x.years(2);
        due("14 out no more", x.of(0, 6), 0);
        x.set(7, 99);
        x.stick(1, 1, 99);
        x.years(1);
        due("14 cut at 99 of who is 99 still", x.of(1, 2), 0);
        x.set(7, 0);
        x.stick(0, 1, 0);
        x.stick(0, 2, 5);
        x.years(1);
        due("14 never cut", x.of(0, 2), 5);
        x.set(7, 1);
        x.stick(0, 1, 0);
        x.years(1);
        due("14 cut at 1", x.of(0, 2), 0);
        // Who is out comes back into deals in the year behind.
        NotchSticks y = valley(2);
        y.set(8, 1);
        y.stick(0, 6, 1);
        due("14 out in this year", y.years(1), 0);
        due("14 back in the next", y.years(1), 1);
    }

    private static void plan() {
        NotchSticks x = new NotchSticks();
        due("15 none to come", x.plan(0, 0, 1, 1000, 0), 0);
        due("15 one to come", x.plan(1, 0, 1, 1000, 0), 3000);
        due("15 one to break", x.plan(1, 1, 1, 1000, 0), 5000);
        due("15 not enough", x.plan(1, 1, 2, 1000, 0), 3000);
        due("15 half patience", x.plan(2, 0, 1, 500, 0), 5500);
        due("15 patience downwards", x.plan(3, 0, 9, 333, 0), 3000 + 333 * 3999 / 1000);
        due("15 60 to come, breaking every other time", x.plan(60, 0, 1, 1000, 0), 30 * 8000);
        due("15 edge", x.plan(1, 1, 1, 0, 1), 1);
        due("15 edge by what comes behind this one", x.plan(1, 1, 1, 1000, 1), 1);
        due("15 edge with three to come", x.plan(3, 1, 1, 1000, 1), 2);
        due("15 edge with half patience", x.plan(3, 1, 1, 500, 1), 1);
        due("15 edge not better is no edge", x.plan(2, 1, 1, 1000, 1), 2);
        due("15 edge of who can't", x.plan(5, 1, 2, 0, 1), -1);
        due("15 edge, k 0", x.plan(0, 1, 1, 0, 1), NO_WORTH);
        due("15 notch", x.plan(1, 1, 2, 1000, 2), 2000);
        due("15 notch, none to come", x.plan(0, 1, 2, 1000, 2), 0);
        due("15 notch, s 23", x.plan(1, 23, 9, 1000, 2), 0);
        due("15 notch, s 24", x.plan(1, 24, 9, 1000, 2), NO_WORTH);
        due("15 24 at most", x.plan(3, 24, 1, 1000, 0), 15000);
        x.set(1, 3);
        due("15 breaking is never better", x.plan(1, 24, 1, 1000, 1), -1);
        x.set(1, 4);
        x.set(11, 0);
        x.set(21, 1);
        due("15 edge 12", x.plan(2, 1, 1, 1000, 1), 12);
        x.set(21, 0);
        x.set(22, 1);
        due("15 no edge above 12", x.plan(2, 1, 1, 1000, 1), -1);
        x.set(22, 0);
        x.set(11, 1);
        x.set(1, 5);
        x.set(12, 2);
        due("15 over sizes", x.plan(1, 0, 1, 0, 0), 15000 / 3);
        due("15 wrong k", x.plan(-1, 0, 1, 0, 0), NO_WORTH);
        due("15 wrong k above", x.plan(61, 0, 1, 0, 0), NO_WORTH);
        due("15 wrong s", x.plan(1, -1, 1, 0, 0), NO_WORTH);
        due("15 wrong s above", x.plan(1, 25, 1, 0, 0), NO_WORTH);
        due("15 wrong need", x.plan(1, 0, 0, 0, 0), NO_WORTH);
        due("15 wrong need above", x.plan(1, 0, 10, 0, 0), NO_WORTH);
        due("15 wrong p", x.plan(1, 0, 1, -1, 0), NO_WORTH);
        due("15 wrong p above", x.plan(1, 0, 1, 1001, 0), NO_WORTH);
        due("15 wrong what", x.plan(1, 0, 1, 0, 3), NO_WORTH);
        due("15 wrong what below", x.plan(1, 0, 1, 0, -1), NO_WORTH);
        x.set(11, 0);
        x.set(12, 0);
        due("15 no weights", x.plan(0, 0, 1, 0, 0), NO_WORTH);
    }

    private static void longer() {
        NotchSticks x = new NotchSticks();
        due("16 share", x.longer(1, 1, 2, 0), 1000000000);
        due("16 gain", x.longer(1, 1, 2, 1), 5000);
        due("16 never", x.longer(13, 1, 200, 0), 0);
        due("16 every tenth", x.longer(1, 9, 10, 0), 1000000000);
        due("16 every third, kept", x.longer(1, 2, 5, 0), 0);
        due("16 every third, broken", x.longer(1, 2, 6, 0), 1000000000);
        due("16 24 at most", x.longer(13, 1, 60, 1), 3000);
        due("16 best edge is the least", x.longer(-1, 1, 1, 5), 1);
        x.set(11, 1);
        x.set(12, 1);
        x.set(13, 1);
        // A third goes on with 1, a third with 2, the rest with 3: 333333333, 333333333, 333333334.
        due("16 the rest goes with the greatest", x.longer(3, 1, 2, 0), 333333334);
        due("16 gain downwards", x.longer(3, 1, 2, 1), (3L * 999999999 + 333333334L * 15) / 1000000);
        x.set(1, 2);
        due("16 never breaking is best", x.longer(-1, 1, 2, 0), 4);
        x.set(22, 1);
        due("16 13 is best", x.longer(-1, 1, 2, 0), 13);
        due("16 t 0", x.longer(0, 1, 1, 0), -1);
        due("16 t 14", x.longer(14, 1, 1, 0), -1);
        due("16 t below", x.longer(-2, 1, 1, 0), -1);
        due("16 need 0", x.longer(1, 0, 1, 0), -1);
        due("16 need 10", x.longer(1, 10, 1, 0), -1);
        due("16 need NONE", x.longer(1, -1, 1, 0), -1);
        due("16 r 0", x.longer(1, 1, 0, 0), -1);
        due("16 r 201", x.longer(1, 1, 201, 0), -1);
        due("16 what 2", x.longer(1, 1, 1, 2), -1);
        due("16 what -1", x.longer(1, 1, 1, -1), -1);
        due("16 best edge, need 0", x.longer(-1, 0, 1, 0), -1);
        due("16 best edge, r 0", x.longer(-1, 1, 0, 0), -1);
        NotchSticks y = new NotchSticks();
        y.set(11, 0);
        due("16 no weights", y.longer(1, 1, 1, 0), -1);
        due("16 no weights, best edge", y.longer(-1, 1, 1, 0), -1);
    }

    private static void common() {
        NotchSticks x = new NotchSticks();
        due("17 all keep", x.common(13, 1, 5), 6000);
        due("17 all break", x.common(1, 1, 2), 1000);
        due("17 best need", x.common(1, -1, 2), 2);
        due("17 best need is the least", x.common(13, -1, 2), 1);
        x.set(2, 99);
        due("17 may be negative", x.common(1, 1, 2), -94000);
        NotchSticks y = new NotchSticks();
        y.set(12, 1);
        y.set(0, 0);
        y.set(1, 0);
        // Breaks alone count, and hurt: in round 9 nobody can have 9 yet; in round 19 some broke with each NEED.
        due("17 9 is best", y.common(2, -1, 9), 9);
        due("17 9 is best of what is negative", y.common(2, -1, 19), 9);
        x.set(11, 1);
        x.set(12, 1);
        x.set(13, 1);
        long sum = 6L * (333333333 + 2L * 333333333) + (5 - 99) * 3L * 333333334;
        due("17 downwards", x.common(3, 1, 2), Math.floorDiv(sum, 1000000L));
        due("17 t NONE", x.common(-1, 1, 1), NO_WORTH);
        due("17 t 0", x.common(0, 1, 1), NO_WORTH);
        due("17 t 14", x.common(14, 1, 1), NO_WORTH);
        due("17 need 0", x.common(1, 0, 1), NO_WORTH);
        due("17 need 10", x.common(1, 10, 1), NO_WORTH);
        due("17 need below NONE", x.common(1, -2, 1), NO_WORTH);
        due("17 r 0", x.common(1, 1, 0), NO_WORTH);
        due("17 r 201", x.common(1, 1, 201), NO_WORTH);
        due("17 best need, r 201", x.common(1, -1, 201), NO_WORTH);
        for (int size = 1; size <= 3; size++) {
            x.set(10 + size, 0);
        }
        due("17 no weights", x.common(1, 1, 1), NO_WORTH);
        due("17 no weights, best need", x.common(1, -1, 1), NO_WORTH);
    }

    private static void pair() {
        NotchSticks x = new NotchSticks();
        due("18 both keep", x.pair(1, 0, 0, 1, 1, 1, 0), 3000);
        due("18 both break then", x.pair(2, 0, 0, 1, 1, 1, 1), 2000);
        due("18 the first breaks", x.pair(1, 1, 1, 1, 1, 13, 0), 5000);
        due("18 the second is hurt", x.pair(1, 1, 1, 1, 1, 13, 1), -4000);
        due("18 the second breaks", x.pair(1, 1, 1, 1, 2, 1, 1), 5000);
        due("18 8 at most", x.pair(2, 8, 0, 9, 1, 13, 0), 6000);
        due("18 8 at most, by need 8", x.pair(3, 8, 0, 8, 1, 13, 0), 5000 + 3000 + 3000);
        due("18 k 20", x.pair(20, 0, 0, 9, 1, 1, 0), 60000);
        due("18 one more each time", x.pair(4, 0, 0, 3, 1, 13, 0), 9000 + 5000);
        due("18 one more each time for the second", x.pair(4, 0, 0, 3, 13, 1, 1), 9000 + 5000);
        due("18 and need less", x.pair(5, 3, 0, 3, 1, 13, 0), 5000 + 9000 + 5000);
        due("18 and need less for the second", x.pair(5, 0, 3, 3, 13, 1, 1), 5000 + 9000 + 5000);
        x.set(12, 1);
        x.set(13, 1);
        // 333333333, 333333333, 333333334: what comes of each time goes downwards for itself.
        long kept = (3L * 333333333 + 6L * 333333333 + 9L * 333333334) / 1000000;
        due("18 each time downwards", x.pair(3, 0, 0, 9, 1, 1, 0), 3 * kept);
        due("18 k 0", x.pair(0, 0, 0, 1, 1, 1, 0), NO_WORTH);
        due("18 k 21", x.pair(21, 0, 0, 1, 1, 1, 0), NO_WORTH);
        due("18 a 9", x.pair(1, 9, 0, 1, 1, 1, 0), NO_WORTH);
        due("18 a -1", x.pair(1, -1, 0, 1, 1, 1, 0), NO_WORTH);
        due("18 b 9", x.pair(1, 0, 9, 1, 1, 1, 0), NO_WORTH);
        due("18 b -1", x.pair(1, 0, -1, 1, 1, 1, 0), NO_WORTH);
        due("18 need 0", x.pair(1, 0, 0, 0, 1, 1, 0), NO_WORTH);
        due("18 need 10", x.pair(1, 0, 0, 10, 1, 1, 0), NO_WORTH);
        due("18 t 0", x.pair(1, 0, 0, 1, 0, 1, 0), NO_WORTH);
        due("18 t 14", x.pair(1, 0, 0, 1, 14, 1, 0), NO_WORTH);
        due("18 u 0", x.pair(1, 0, 0, 1, 1, 0, 0), NO_WORTH);
        due("18 u 14", x.pair(1, 0, 0, 1, 1, 14, 0), NO_WORTH);
        due("18 what 2", x.pair(1, 0, 0, 1, 1, 1, 2), NO_WORTH);
        due("18 what -1", x.pair(1, 0, 0, 1, 1, 1, -1), NO_WORTH);
        for (int size = 1; size <= 3; size++) {
            x.set(10 + size, 0);
        }
        due("18 no weights", x.pair(1, 0, 0, 1, 1, 1, 0), NO_WORTH);
    }

    private static void holds() {
        NotchSticks x = new NotchSticks();
        due("19 all hold", x.holds(1, 0, 0, 1, 0), 169);
        due("19 the first of all", x.holds(1, 0, 0, 1, 1), 21);
        due("19 the first with the most", x.holds(1, 0, 0, 1, 2), 21);
        due("19 both break", x.holds(1, 1, 1, 1, 0), 1);
        x.set(3, 9);
        // Now breaking alone is best for each against who keeps, keeping against who breaks: t 1 with u 2 .. 13, and so on.
        due("19 one breaks", x.holds(1, 1, 1, 1, 0), 24);
        due("19 the first", x.holds(1, 1, 1, 1, 1), 22);
        due("19 the most", x.holds(1, 1, 1, 1, 2), 22);
        x.set(11, 0);
        x.set(22, 1);
        due("19 one keeps by 13", x.holds(1, 1, 1, 1, 0), 24);
        due("19 the first has u 13", x.holds(1, 1, 1, 1, 1), 33);
        x.set(22, 0);
        x.set(11, 1);
        // With HURT equal to BOTH and BREAK to KEEP all hold again, and keeping both has the most.
        x.set(3, 4);
        x.set(1, 3);
        due("19 alike", x.holds(1, 1, 1, 1, 0), 169);
        due("19 alike, the first", x.holds(1, 1, 1, 1, 1), 21);
        due("19 keeping has the most", x.holds(1, 1, 1, 1, 2), 42);
        due("19 k 0", x.holds(0, 0, 0, 1, 0), -1);
        due("19 k 21", x.holds(21, 0, 0, 1, 0), -1);
        due("19 a 9", x.holds(1, 9, 0, 1, 0), -1);
        due("19 b -1", x.holds(1, 0, -1, 1, 0), -1);
        due("19 need 0", x.holds(1, 0, 0, 0, 0), -1);
        due("19 need 10", x.holds(1, 0, 0, 10, 0), -1);
        due("19 what 3", x.holds(1, 0, 0, 1, 3), -1);
        due("19 what -1", x.holds(1, 0, 0, 1, -1), -1);
        x.set(11, 0);
        due("19 no weights", x.holds(1, 0, 0, 1, 0), -1);
    }

    private static void safe() {
        NotchSticks x = valley(12);
        due("20 all without a law", x.safe(), 4095);
        tell(x, 0, "may when size=12 and age>24;");
        due("20 up to 24", x.safe(), 31);
        tell(x, 1, "may when age<31;");
        x.set(9, 1);
        due("20 the eldest", x.safe(), 2048);
        due("20 nobody", new NotchSticks().safe(), 0);
    }

    private static void named() {
        NotchSticks x = valley(4);
        x.stick(0, 2, 5);
        x.stick(0, 3, 4);
        x.stick(1, 2, 1);
        x.stick(2, 2, 1);
        x.stick(2, 4, 7);
        x.stick(3, 3, 9);
        int[] want = {2, 0, 1, 3};
        for (int i = 0; i < 4; i++) {
            due("21 " + i, x.named(i), want[i]);
        }
        due("21 none behind", x.named(4), -1);
        due("21 none ahead", x.named(-1), -1);
        due("21 far", x.named(MAX), -1);
        due("21 nobody", new NotchSticks().named(0), -1);
    }

    private static void annals() {
        NotchSticks x = valley(3);
        tell(x, 2, "break when size>4;");
        x.stick(0, 0, 0);
        x.stick(1, 0, 0);
        x.set(6, 0);
        x.set(8, 0);
        x.years(1);
        x.deal(0, 1, 5);
        x.deal(0, 2, 6);
        x.deal(1, 2, 4);
        x.set(5, 0);
        x.deal(2, 1, 7);
        int[] want = {4, 22, 4, 7};
        for (int what = 0; what < 4; what++) {
            due("22 what " + what, x.annals(1, what), want[what]);
            due("22 another year", x.annals(0, what), 0);
            due("22 a year to come", x.annals(999, what), 0);
        }
        due("22 what 4", x.annals(1, 4), -1);
        due("22 what -1", x.annals(1, -1), -1);
        due("22 year -1", x.annals(-1, 0), -1);
        due("22 year 1000", x.annals(1000, 0), -1);
    }

    private static void rests() {
        NotchSticks x = valley(2);
        // Unlawful: breaking brings 5000 - 6000 against who keeps, so keeping rests.
        due("23 unlawful", x.rests(0, 1, 1), 1 + (1 << 2) + (1 << 4) + (1 << 6));
        x.set(5, 300);
        // Now 5000 - 1800 is more than 3000.
        due("23 seldom noticed", x.rests(0, 1, 2), 1 + (1 << 2) + (1 << 6));
        x.set(5, 333);
        due("23 5000 less 1998", x.rests(0, 1, 1), 1 + (1 << 2) + (1 << 6));
        x.set(4, 2);
        x.set(5, 1000);
        due("23 5000 less 2000 is not greater than 3000", x.rests(0, 1, 1), 1 + (1 << 2) + (1 << 4) + (1 << 6));
        x.set(4, 99);
        x.set(5, 1000);
        tell(x, 0, "may when age=20;");
        due("23 lawful for the first alone", x.rests(0, 1, 1), 1 + (1 << 2) + (1 << 6));
        x.set(1, 2);
        due("23 breaking brings less", x.rests(0, 1, 1), 1 + (1 << 2) + (1 << 4) + (1 << 6));
        x.set(3, 0);
        x.set(4, 0);
        due("23 breaking both costs nothing", x.rests(0, 1, 1), 1 + (1 << 2) + (1 << 4) + (1 << 6) + (1 << 8));
        x.stick(0, 6, 5);
        due("23 out is not asked", x.rests(0, 1, 1), 1 + (1 << 2) + (1 << 4) + (1 << 6) + (1 << 8));
        due("23 the same", x.rests(0, 0, 1), -1);
        due("23 nobody", x.rests(0, 2, 1), -1);
        due("23 size 0", x.rests(0, 1, 0), -1);
        due("23 size 13", x.rests(0, 1, 13), -1);
    }

    private static void whom() {
        NotchSticks x = valley(6);
        due("24 the first of several", x.whom(0, 1), 1);
        due("24 not himself", x.whom(1, 1), 0);
        x.stick(5, 2, 9);
        x.stick(4, 2, 8);
        x.stick(3, 2, 7);
        x.stick(2, 2, 6);
        x.stick(1, 2, 6);
        due("24 the most", x.whom(0, 1), 5);
        x.stick(5, 6, 1);
        due("24 not who is out", x.whom(0, 1), 4);
        tell(x, 2, "break when oage=20;");
        x.stick(4, 0, 0);
        due("24 not who breaks", x.whom(0, 1), 3);
        tell(x, 3, "deal when oage>20;");
        x.stick(3, 0, 1);
        due("24 not who does not deal", x.whom(0, 1), 1);
        tell(x, 4, "deal when oage=22; break when 1=1;");
        x.stick(0, 0, 2);
        due("24 not with whom he does not deal", x.whom(0, 1), 2);
        x.stick(0, 6, 1);
        due("24 only the others' being out is asked", x.whom(0, 1), 2);
        x.stick(2, 6, 1);
        due("24 nobody", x.whom(0, 1), -1);
        due("24 who", x.whom(6, 1), -1);
        due("24 who below", x.whom(-1, 1), -1);
        due("24 size 0", x.whom(1, 0), -1);
        due("24 size 13", x.whom(1, 13), -1);
    }

    private static void trust() {
        NotchSticks x = valley(3);
        x.stick(0, 1, 29);
        x.stick(1, 1, 30);
        x.stick(2, 1, 99);
        tell(x, 2, "break when 1=1;");
        x.stick(1, 0, 0);
        x.set(6, 0);
        x.deal(0, 1, 1);
        x.set(5, 0);
        x.deal(1, 2, 1);
        x.stick(0, 1, 35);
        due("25 of the age then", x.trust(2, 0), 1);
        due("25 nobody broke", x.trust(2, 1), 0);
        due("25 thirties", x.trust(3, 0), 2);
        due("25 broke", x.trust(3, 1), 2);
        due("25 noticed", x.trust(3, 2), 1);
        due("25 nineties", x.trust(9, 0), 1);
        due("25 nineties kept", x.trust(9, 1) + x.trust(9, 2), 0);
        due("25 decade 10", x.trust(10, 0), -1);
        due("25 decade 0", x.trust(0, 0), 0);
        due("25 decade -1", x.trust(-1, 0), -1);
        due("25 what 3", x.trust(3, 3), -1);
        due("25 what -1", x.trust(3, -1), -1);
    }

    private static void held() {
        NotchSticks x = valley(2);
        tell(x, 0, "may when age<21;");
        tell(x, 2, "break when size>1;");
        x.stick(0, 0, 0);
        x.stick(1, 0, 0);
        x.set(6, 0);
        x.deal(0, 1, 1);
        x.deal(0, 1, 2);
        x.set(5, 0);
        x.deal(0, 1, 3);
        due("26 kept as the book tells", x.held(0, 0), 0);
        due("26 broken as the book tells", x.held(0, 1), 0);
        due("26 unlawful ones are on no stick", x.held(1, 0) + 10 * x.held(1, 1), 0);
        due("26 kept", x.of(0, 2), 2);
        x.stick(0, 2, 7);
        x.stick(0, 3, 0);
        due("26 more kept", x.held(0, 0), 5);
        due("26 fewer broken", x.held(0, 1), -1);
        due("26 what 2", x.held(0, 2), NO_NUMBER);
        due("26 what -1", x.held(0, -1), NO_NUMBER);
        due("26 nobody", x.held(2, 0), NO_NUMBER);
        due("26 below", x.held(-1, 0), NO_NUMBER);
    }

    private static void lend() {
        NotchSticks x = valley(2);
        x.stick(0, 2, 100);
        x.stick(0, 4, 500);
        due("27 k 100", x.lend(0, 1, 100, 0), false);
        due("27 k 0", x.lend(0, 1, 0, 0), false);
        due("27 k below", x.lend(0, 1, -1, 0), false);
        due("27 price -1", x.lend(0, 1, 1, -1), false);
        due("27 price 10000", x.lend(0, 1, 1, 10000), false);
        due("27 the same", x.lend(0, 0, 1, 1), false);
        due("27 nobody", x.lend(0, 2, 1, 1), false);
        due("27 from nobody", x.lend(-1, 0, 1, 1), false);
        due("27 not as many", x.lend(1, 0, 1, 1), false);
        due("27 nothing went", x.of(0, 2) + x.of(0, 7), 100);
        due("27 99 for 9999", x.lend(0, 1, 99, 9999), true);
        due("27 kept from", x.of(0, 2), 1);
        due("27 kept to", x.of(1, 2), 99);
        due("27 large stays", x.of(0, 4), 500);
        due("27 large stays there", x.of(1, 4), 0);
        due("27 purse from", x.of(0, 7), 9999);
        due("27 purse to", x.of(1, 7), -9999);
        x.stick(1, 2, 9998);
        due("27 up to 9999", x.lend(0, 1, 1, 0), true);
        x.stick(0, 2, 1);
        due("27 above 9999", x.lend(0, 1, 1, 0), false);
    }

    private static void thought() {
        NotchSticks x = valley(2);
        tell(x, 0, "may when 1=1;");
        tell(x, 2, "break when 1=1;");
        x.stick(0, 0, 0);
        x.state(99);
        x.set(8, 3);
        x.stick(1, 2, 1);
        x.lend(1, 0, 1, 70);
        x.lend(0, 1, 1, 60);
        x.deal(1, 0, 1);
        x.image(true);
        due("28 purses", x.thought(2, 0, 0), 6);
        due("28 deals", x.thought(2, 0, 1), 6);
        due("28 breaks", x.thought(2, 0, 2), 6);
        due("28 unlawful", x.thought(2, 0, 3), 0);
        // With the empty law each year's first break is unlawful: 5 - 4 - 6 and out for the rest of it.
        due("28 purses by the other law", x.thought(2, 1, 0), -10);
        due("28 deals by the other law", x.thought(2, 1, 1), 2);
        due("28 breaks by the other law", x.thought(2, 1, 2), 2);
        due("28 unlawful by the other law", x.thought(2, 1, 3), 2);
        due("28 better", x.thought(2, -1, 77), 0);
        x.set(3, 0);
        x.set(5, 0);
        due("28 unnoticed breaks", x.thought(1, 1, 2), 3);
        due("28 unnoticed breaks are not unlawful", x.thought(1, 1, 3), 0);
        due("28 of both 0", x.thought(1, -1, 0), 0);
        x.set(5, 1000);
        x.set(1, 0);
        due("28 the other one is better", x.thought(1, -1, 0), 1);
        due("28 state stays", x.state(99), 99);
        due("28 year stays", x.look(1), 0);
        due("28 book stays", x.look(2), 1);
        due("28 law stays", x.look(19), 0);
        due("28 purse stays", x.of(0, 7), -5);
        due("28 age stays", x.of(0, 1), 20);
        due("28 n 0", x.thought(0, 0, 0), NO_NUMBER);
        due("28 n 31", x.thought(31, 0, 0), NO_NUMBER);
        due("28 law 2", x.thought(1, 2, 0), NO_NUMBER);
        due("28 law -2", x.thought(1, -2, 0), NO_NUMBER);
        due("28 what 4", x.thought(1, 0, 4), NO_NUMBER);
        due("28 what -1", x.thought(1, 0, -1), NO_NUMBER);
        due("28 better, n 31", x.thought(31, -1, 0), NO_NUMBER);
    }

    /** Years in thought go on behind the last one: each is one more, and nothing of it stays. */
    private static void thoughtBeyondTheLastYear() {
        NotchSticks x = valley(2);
        x.set(8, 0);
        for (int i = 0; i < 16; i++) {
            x.years(60);
        }
        x.years(39);
        x.set(8, 2);
        tell(x, 2, "deal when not year=999;break when year>1001;");
        tell(x, 1, "may when year>1002;");
        x.stick(0, 0, 0);
        due("28 the last year alone", x.thought(1, 0, 1), 0);
        due("28 a year behind it", x.thought(2, 0, 1), 2);
        due("28 two years behind it", x.thought(3, 0, 0), 24);
        due("28 no break yet", x.thought(3, 0, 2), 0);
        due("28 a break in 1002", x.thought(4, 0, 2), 1);
        due("28 breaks to 1004, not lawful", x.thought(6, 0, 3), 3);
        due("28 breaks to 1004, by the other law", x.thought(6, 1, 2), 5);
        due("28 not lawful by the other law", x.thought(6, 1, 3), 1);
        due("28 better behind it", x.thought(6, -1, 0), 1);
        due("28 of both 0 behind it", x.thought(4, -1, 0), 0);
        due("28 year stays 999", x.look(1), 999);
        due("28 book stays empty", x.look(2), 0);
        due("14 no years behind it", x.years(1), -1);
    }

    private static void told() {
        NotchSticks x = valley(2);
        due("29 none", x.told(0, 1, 0), -100);
        tell(x, 0, "may when size>6 and age=20;");
        due("29 the size", x.told(0, 9, 0), 7);
        due("29 less", x.told(0, 9, 1), -2);
        due("29 more", x.told(0, 1, 1), 6);
        due("29 not for the other one", x.told(1, 9, 0), -100);
        tell(x, 0, "may when size>11;");
        due("29 up to 12", x.told(0, 12, 1), 0);
        due("29 what 2", x.told(0, 1, 2), -100);
        due("29 what -1", x.told(0, 1, -1), -100);
        due("29 size 0", x.told(0, 0, 0), -100);
        due("29 size 13", x.told(0, 13, 0), -100);
        due("29 nobody", x.told(2, 1, 0), -100);
        due("29 below", x.told(-1, 1, 0), -100);
    }

    private static void image() {
        NotchSticks x = valley(2);
        due("30 none", x.image(false), false);
        tell(x, 0, "may when size=1;");
        x.state(41);
        x.deal(0, 1, 2);
        x.set(9, 1);
        x.set(0, 8);
        tell(x, 5, "x");
        feedText(x, "may");
        due("30 taken", x.image(true), true);
        for (int again = 0; again < 2; again++) {
            x.state(7);
            x.one(9, 1);
            x.stick(2, 2, 50);
            x.stick(0, 2, 60);
            x.deal(0, 1, 9);
            x.set(8, 0);
            x.years(5);
            x.set(9, 0);
            x.set(0, 1);
            x.set(12, 5);
            x.text(5);
            tell(x, 0, "may when 1/0=1;");
            tell(x, 1, "may when 1=1;");
            tell(x, 0, "may when size/0=1;");
            feedText(x, "may wh");
            due("30 gone back", x.image(false), true);
            due("30 the tape stays", x.end(7), false);
            due("30 the tape stays as it is", x.end(6), true);
            due("30 fault stays", x.fault(0), 2);
            due("30 place stays", x.fault(1), 14);
            x.end(0);
            due("30 state", x.state(41), 41);
            due("30 people", x.look(0), 2);
            due("30 kept", x.of(0, 2), 1);
            due("30 age", x.of(0, 1), 20);
            due("30 purse", x.of(0, 7), 6);
            due("30 year", x.look(1), 0);
            due("30 book", x.look(2), 1);
            due("30 size in the book", x.book(0, 3), 2);
            due("30 law", x.look(19), 1);
            due("30 keep", x.look(10), 8);
            due("30 each", x.look(18), 4);
            due("30 weights", x.look(3), 1);
            due("30 text 1", x.would(0, 1, 1, 2), 0);
            x.set(9, 0);
            due("30 text 0", x.would(0, 1, 1, 2), 1);
            x.set(9, 1);
            due("30 a new one is new", x.one(9, 1), 2);
            due("30 a new one's stick", x.of(2, 2), 0);
            x.image(false);
        }
        x.set(0, 50);
        x.image(true);
        x.set(0, 51);
        x.image(false);
        due("30 taken anew", x.look(10), 50);
    }

    private static void look() {
        NotchSticks x = valley(3);
        due("31 people", x.look(0), 3);
        x.years(4);
        due("31 year", x.look(1), 4);
        due("31 deals", x.look(2), 16);
        x.set(22, 9);
        due("31 weights", x.look(3), 10);
        due("31 weight of 12", x.look(32), 9);
        int[] none = {4, 9, 20, 33, -1, MAX, MIN};
        for (int what : none) {
            due("31 look(" + what + ")", x.look(what), -1);
        }
    }
}
