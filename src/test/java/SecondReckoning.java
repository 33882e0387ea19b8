import java.math.BigInteger;
import java.util.ArrayList;
import java.util.Comparator;
import java.util.HashMap;
import java.util.List;
import java.util.Map;
import java.util.Random;
import java.util.TreeMap;

/**
 * Holds runs of drawn calls against a second, slow telling of the document: texts are read anew at each question,
 * values are reckoned by recursion and big integers, all that is kept are plain lists.
 */
public final class SecondReckoning {
    private static final int RUNS = 160;
    private static int wrong = 0;
    private static long calls = 0;

    public static void main(String[] args) {
        for (int run = 0; run < RUNS && wrong < 20; run++) {
            new Run(run).go();
        }
        System.out.println(calls + " drawn calls, " + wrong + " wrong");
        if (wrong != 0) {
            System.exit(1);
        }
    }

    /** One object and its slow double under the same calls. */
    static final class Run {
        final int number;
        final Random random;
        final NotchSticks fast = new NotchSticks();
        final List<String> told = new ArrayList<>();
        Slow slow = new Slow();
        Slow image = null;
        String tape = "";
        int fault = 0;
        int place = -1;

        Run(int number) {
            this.number = number;
            this.random = new Random(7919L * number + 1);
        }

        void due(String call, long got, long want) {
            calls++;
            told.add(call + " = " + want);
            if (got != want) {
                wrong++;
                System.out.println("run " + number + ", call " + told.size() + ": " + call + " answered " + got + ", due is " + want);
            }
        }

        int within(int least, int most) {
            if (random.nextInt(25) == 0) {
                int[] odd = {least - 1, most + 1, -1, Integer.MIN_VALUE, Integer.MAX_VALUE, most + 10};
                return odd[random.nextInt(odd.length)];
            }
            if (random.nextInt(10) == 0) {
                return random.nextBoolean() ? least : most;
            }
            return least + random.nextInt(most - least + 1);
        }

        void go() {
            int before = wrong;
            int style = number % 4;
            for (int i = 0; i < 3 + random.nextInt(6); i++) {
                addOne();
            }
            if (style != 0) {
                for (int k = 0; k < 6; k++) {
                    tellText(k, true);
                }
            }
            if (number % 5 == 4) {
                goFar();
            }
            if (number % 8 == 7) {
                breakAsWellAsKeep();
            }
            while (told.size() < 480 && wrong - before < 3) {
                one(random.nextInt(100));
            }
        }

        /** Nearly to the last YEAR, with the BOOK as it was. */
        void goFar() {
            due("set(8,0)", fast.set(8, 0) ? 1 : 0, slow.set(8, 0) ? 1 : 0);
            for (int i = 0; i < 16; i++) {
                due("years(60)", fast.years(60), slow.years(60));
            }
            due("years(25)", fast.years(25), slow.years(25));
            due("set(8,3)", fast.set(8, 3) ? 1 : 0, slow.set(8, 3) ? 1 : 0);
        }

        /** Where one's own breaks bring no more and no less, PAIRS differ by what goes downwards alone. */
        void breakAsWellAsKeep() {
            int[] told = new int[23];
            told[0] = told[1] = 60 + random.nextInt(40);
            told[2] = told[3] = random.nextInt(100);
            for (int size = 1; size <= 12; size++) {
                told[10 + size] = random.nextInt(5) == 0 ? 0 : random.nextInt(100);
            }
            for (int what = 0; what < 23; what++) {
                if (what < 4 || what > 10) {
                    due("set(" + what + "," + told[what] + ")", fast.set(what, told[what]) ? 1 : 0, slow.set(what, told[what]) ? 1 : 0);
                }
            }
            int k = 10 + random.nextInt(11), a = random.nextInt(9), b = random.nextInt(9), need = 2 + random.nextInt(4);
            for (int what = 0; what < 3; what++) {
                due("holds(" + k + "," + a + "," + b + "," + need + "," + what + ")", fast.holds(k, a, b, need, what), slow.holds(k, a, b, need, what));
            }
            for (int i = 0; i < 20; i++) {
                int t = 1 + random.nextInt(13), u = 1 + random.nextInt(13), what = random.nextInt(2);
                due("pair(" + k + "," + a + "," + b + "," + need + "," + t + "," + u + "," + what + ")", fast.pair(k, a, b, need, t, u, what), slow.pair(k, a, b, need, t, u, what));
            }
        }

        void one(int kind) {
            if (kind < 4) addOne();
            else if (kind < 14) stick();
            else if (kind < 22) set();
            else if (kind < 27) tellText(within(0, 5), random.nextInt(3) > 0);
            else if (kind < 30) state();
            else if (kind < 36) would();
            else if (kind < 48) deal();
            else if (kind < 54) years();
            else if (kind < 60) reckon();
            else if (kind < 66) askBook();
            else if (kind < 72) askPeople();
            else if (kind < 78) lendThinkTell();
            else if (kind < 80) image();
            else lookAll();
        }

        void addOne() {
            int age = within(0, 99);
            int rule = within(0, 4);
            due("one(" + age + "," + rule + ")", fast.one(age, rule), slow.one(age, rule));
        }

        void stick() {
            int who = within(0, 11);
            int what = within(0, 6);
            int[] most = {4, 99, 9999, 9999, 9999, 9999, 9};
            int m = what >= 0 && what <= 6 ? most[what] : 5;
            int v = m == 9999 && random.nextInt(3) > 0 ? within(0, 12) : within(0, m);
            if (random.nextInt(9) == 0 && m == 9999) {
                v = 9999;
            }
            due("stick(" + who + "," + what + "," + v + ")", fast.stick(who, what, v) ? 1 : 0, slow.stick(who, what, v) ? 1 : 0);
        }

        void set() {
            int what = within(0, 22);
            int[] most = {99, 99, 99, 99, 99, 1000, 9, 99, 20, 1};
            int m = what >= 0 && what < 10 ? most[what] : 99;
            int v = what > 10 && random.nextInt(2) == 0 ? 0 : within(0, m);
            if (what == 5 && random.nextInt(2) == 0) {
                v = 1000;
            }
            if (what < 5 && random.nextInt(3) == 0) {
                v = random.nextInt(4);
            }
            due("set(" + what + "," + v + ")", fast.set(what, v) ? 1 : 0, slow.set(what, v) ? 1 : 0);
        }

        void state() {
            int v = random.nextInt();
            due("state(" + v + ")", fast.state(v), slow.state);
            slow.state = v;
        }

        void tellText(int k, boolean whole) {
            String s = new Drawn(random, k < 2).text();
            if (!whole) {
                s = spoil(s);
            }
            for (int i = 0; i < s.length(); i += 20) {
                int[] five = new int[5];
                for (int j = 0; j < 20; j++) {
                    int c = i + j < s.length() ? s.charAt(i + j) : random.nextInt(256);
                    five[j / 4] = five[j / 4] << 8 | c;
                }
                String piece = "";
                for (int j = 0; j < 20; j++) {
                    piece += (char) (five[j / 4] >>> 24 - 8 * (j % 4) & 255);
                }
                int want = -1;
                if (tape.length() + 20 <= 400) {
                    tape += piece;
                    want = tape.length();
                }
                due("feed", fast.feed(five[0], five[1], five[2], five[3], five[4]), want);
            }
            int n = random.nextInt(12) == 0 ? within(0, 400) : s.length();
            boolean can = n >= 0 && n <= tape.length();
            if (can) {
                tape = tape.substring(0, n);
            }
            due("end(" + n + ")", fast.end(n) ? 1 : 0, can ? 1 : 0);
            int want = -1;
            fault = 0;
            place = -1;
            String shown = tape;
            if (k >= 0 && k <= 5) {
                Slow.Read read = new Slow.Read(tape, k < 2);
                read.check();
                fault = read.fault;
                place = read.fault == 0 ? -1 : read.place;
                if (fault == 0) {
                    slow.texts[k] = tape;
                    want = read.lines;
                }
            }
            tape = "";
            due("text(" + k + ") of '" + shown + "'", fast.text(k), want);
            due("fault(0)", fast.fault(0), fault);
            due("fault(1)", fast.fault(1), place);
            due("fault(2)", fast.fault(2), -1);
        }

        String spoil(String s) {
            StringBuilder b = new StringBuilder(s);
            String some = "aZ09;+-*/()<=> \n\tmnot9 or0\u00e9";
            int times = 1 + random.nextInt(2);
            for (int i = 0; i < times && b.length() > 0; i++) {
                int at = random.nextInt(b.length());
                switch (random.nextInt(4)) {
                    case 0: b.deleteCharAt(at); break;
                    case 1: b.setCharAt(at, some.charAt(random.nextInt(some.length()))); break;
                    case 2: if (b.length() < 399) b.insert(at, some.charAt(random.nextInt(some.length()))); break;
                    default: b.setLength(at);
                }
            }
            return b.toString();
        }

        void would() {
            int a = within(0, 11), b = within(0, 11), size = within(1, 12), what = within(0, 2);
            due("would(" + a + "," + b + "," + size + "," + what + ")", fast.would(a, b, size, what), slow.would(a, b, size, what));
        }

        void deal() {
            int n = Math.max(1, slow.ones.size());
            int a = within(0, n - 1), b = within(0, n - 1), size = within(1, 12);
            due("deal(" + a + "," + b + "," + size + ")", fast.deal(a, b, size), slow.deal(a, b, size));
        }

        void years() {
            int n = random.nextInt(3) == 0 ? within(1, 60) : within(1, 3);
            due("years(" + n + ")", fast.years(n), slow.years(n));
            due("look(2)", fast.look(2), slow.book.size());
        }

        void reckon() {
            int k = within(0, 60), s = within(0, 24), need = within(1, 9), p = within(0, 1000), what = within(0, 2);
            if (random.nextInt(3) == 0) {
                p = 1000;
            }
            due("plan(" + k + "," + s + "," + need + "," + p + "," + what + ")", fast.plan(k, s, need, p, what), slow.plan(k, s, need, p, what));
            int t = random.nextInt(6) == 0 ? -1 : within(1, 13), r = random.nextInt(6) == 0 ? within(1, 200) : within(1, 20);
            due("longer(" + t + "," + need + "," + r + "," + what + ")", fast.longer(t, need, r, what), slow.longer(t, need, r, what));
            int q = random.nextInt(6) == 0 ? -1 : need;
            due("common(" + t + "," + q + "," + r + ")", fast.common(t, q, r), slow.common(t, q, r));
            int d = random.nextInt(3) == 0 ? within(1, 20) : within(1, 6);
            int a = within(0, 8), b = within(0, 8), u = within(1, 13), w = within(0, 1);
            due("pair(" + d + "," + a + "," + b + "," + need + "," + t + "," + u + "," + w + ")", fast.pair(d, a, b, need, t, u, w), slow.pair(d, a, b, need, t, u, w));
            if (random.nextInt(8) == 0) {
                int e = within(1, 4), f = within(1, 3);
                for (int x = 0; x < 4; x++) {
                    due("holds(" + e + "," + a + "," + b + "," + f + "," + x + ")", fast.holds(e, a, b, f, x), slow.holds(e, a, b, f, x));
                }
            }
        }

        void askBook() {
            int i = within(0, Math.max(0, slow.book.size() - 1)), what = within(0, 7);
            due("book(" + i + "," + what + ")", fast.book(i, what), slow.bookOf(i, what));
            int year = within(0, Math.max(1, slow.year)), x = within(0, 3);
            due("annals(" + year + "," + x + ")", fast.annals(year, x), slow.annals(year, x));
            int decade = within(0, 9), y = within(0, 2);
            due("trust(" + decade + "," + y + ")", fast.trust(decade, y), slow.trust(decade, y));
            int who = within(0, 11), z = within(0, 1);
            due("held(" + who + "," + z + ")", fast.held(who, z), slow.held(who, z));
        }

        void askPeople() {
            due("safe()", fast.safe(), slow.safe());
            int i = within(0, 11);
            due("named(" + i + ")", fast.named(i), slow.named(i));
            int a = within(0, 11), b = within(0, 11), size = within(1, 12);
            due("rests(" + a + "," + b + "," + size + ")", fast.rests(a, b, size), slow.rests(a, b, size));
            due("whom(" + a + "," + size + ")", fast.whom(a, size), slow.whom(a, size));
            int what = within(0, 1);
            due("told(" + a + "," + size + "," + what + ")", fast.told(a, size, what), slow.told(a, size, what));
        }

        void lendThinkTell() {
            int from = within(0, 11), to = within(0, 11), k = within(1, 99), price = within(0, 9999);
            if (random.nextInt(2) == 0) {
                k = 1 + random.nextInt(3);
            }
            due("lend(" + from + "," + to + "," + k + "," + price + ")", fast.lend(from, to, k, price) ? 1 : 0, slow.lend(from, to, k, price) ? 1 : 0);
            int n = within(1, 30), law = within(-1, 1), what = within(0, 3);
            due("thought(" + n + "," + law + "," + what + ")", fast.thought(n, law, what), slow.thought(n, law, what));
        }

        void image() {
            boolean taken = random.nextInt(3) == 0;
            boolean can = taken || image != null;
            if (taken) {
                image = slow.copy();
            } else if (image != null) {
                slow = image.copy();
            }
            due("image(" + taken + ")", fast.image(taken) ? 1 : 0, can ? 1 : 0);
        }

        void lookAll() {
            int what = within(0, 32);
            due("look(" + what + ")", fast.look(what), slow.look(what));
            int who = within(0, 11), w = within(0, 8);
            due("of(" + who + "," + w + ")", fast.of(who, w), slow.of(who, w));
        }
    }

    /** A text drawn by the grammar. */
    static final class Drawn {
        final Random random;
        final boolean law;

        Drawn(Random random, boolean law) {
            this.random = random;
            this.law = law;
        }

        String text() {
            String s = "";
            int lines = random.nextInt(8) == 0 ? 14 + random.nextInt(5) : random.nextInt(5);
            for (int i = 0; i < lines; i++) {
                String head = law ? "may" : random.nextInt(2) == 0 ? "deal" : "break";
                String line = head + " when " + (lines > 8 ? "1=" + random.nextInt(3) : either(0)) + blank() + ";" + blank();
                if (s.length() + line.length() <= 400) {
                    s += line;
                }
            }
            return s;
        }

        String blank() {
            int n = random.nextInt(8);
            return n == 0 ? "\n" : n < 4 ? " " : "";
        }

        String either(int open) {
            String s = all(open);
            while (random.nextInt(4) == 0) {
                s += " or " + all(open);
            }
            return s;
        }

        String all(int open) {
            String s = condition(open);
            while (random.nextInt(4) == 0) {
                s += " and " + condition(open);
            }
            return s;
        }

        String condition(int open) {
            int n = random.nextInt(9);
            int deepest = random.nextInt(20) == 0 ? 10 : 6;
            if (n == 0 && open < deepest || open > 0 && open < deepest && random.nextInt(3) > 0) {
                return random.nextBoolean() ? "not " + condition(open + 1) : "(" + blank() + either(open + 1) + blank() + ")";
            }
            if (n == 1 && open < deepest) {
                return "(" + either(open + 1) + ")";
            }
            return sum() + blank() + "<=>".charAt(random.nextInt(3)) + blank() + sum();
        }

        String sum() {
            String s = product();
            while (random.nextInt(3) == 0) {
                s += blank() + "+-".charAt(random.nextInt(2)) + blank() + product();
            }
            return s;
        }

        String product() {
            String s = unit();
            while (random.nextInt(4) == 0) {
                s += random.nextInt(3) == 0 ? "/" + blank() + (random.nextInt(30) == 0 ? "0" : "" + (1 + random.nextInt(9))) : "*" + blank() + unit();
            }
            return s;
        }

        String unit() {
            String[] names = {"kept", "broken", "large", "lost", "size", "age", "year",
                "okept", "obroken", "olarge", "olost", "oage", "lawful", "olawful", "purse"};
            if (random.nextInt(40) == 0) {
                return "" + (985 + random.nextInt(30));
            }
            if (random.nextInt(3) == 0) {
                return random.nextInt(6) == 0 ? "" + random.nextInt(10000) : "" + random.nextInt(13);
            }
            return names[random.nextInt(law ? 7 : 15)];
        }
    }

    /** The second telling. */
    static final class Slow {
        static final String[] OWN = {"rule", "age", "kept", "broken", "large", "lost", "out", "purse", "unlawful"};
        int state = 0;
        int year = 0;
        List<Map<String, Integer>> ones = new ArrayList<>();
        Map<Integer, Integer> set = new TreeMap<>();
        String[] texts = {"", "", "", "", "", ""};
        List<int[]> book = new ArrayList<>();

        Slow() {
            int[] first = {3, 5, 4, 1, 6, 1000, 1, 0, 4, 0};
            for (int i = 0; i < first.length; i++) {
                set.put(i, first[i]);
            }
            for (int size = 1; size <= 12; size++) {
                set.put(10 + size, size == 1 ? 1 : 0);
            }
        }

        Slow copy() {
            Slow c = new Slow();
            c.state = state;
            c.year = year;
            for (Map<String, Integer> o : ones) {
                c.ones.add(new HashMap<>(o));
            }
            c.set = new TreeMap<>(set);
            c.texts = texts.clone();
            c.book = new ArrayList<>(book);
            return c;
        }

        int draw(int m) {
            state = state * 1664525 + 1013904223;
            return (int) (((state & 0xffffffffL) >> 8) % m);
        }

        int weight(int size) {
            return set.get(10 + size);
        }

        int all() {
            int sum = 0;
            for (int size = 1; size <= 12; size++) {
                sum += weight(size);
            }
            return sum;
        }

        boolean isOne(int who) {
            return who >= 0 && who < ones.size();
        }

        static boolean isSize(int size) {
            return size >= 1 && size <= 12;
        }

        int one(int age, int rule) {
            if (age < 0 || age > 99 || rule < 0 || rule > 4 || ones.size() == 12) {
                return -1;
            }
            Map<String, Integer> o = new HashMap<>();
            for (String s : OWN) {
                o.put(s, 0);
            }
            o.put("age", age);
            o.put("rule", rule);
            ones.add(o);
            return ones.size() - 1;
        }

        boolean stick(int who, int what, int v) {
            if (!isOne(who) || what < 0 || what > 6 || v < 0) {
                return false;
            }
            int most = what == 0 ? 4 : what == 1 ? 99 : what == 6 ? 9 : 9999;
            if (v > most) {
                return false;
            }
            ones.get(who).put(OWN[what], v);
            return true;
        }

        boolean set(int what, int v) {
            if (!set.containsKey(what) || v < 0) {
                return false;
            }
            int most = what == 5 ? 1000 : what == 6 ? 9 : what == 8 ? 20 : what == 9 ? 1 : 99;
            if (v > most) {
                return false;
            }
            set.put(what, v);
            return true;
        }

        int of(int who, int what) {
            return isOne(who) && what >= 0 && what <= 8 ? ones.get(who).get(OWN[what]) : -10000000;
        }

        int look(int what) {
            if (what == 0) return ones.size();
            if (what == 1) return year;
            if (what == 2) return book.size();
            if (what == 3) return all();
            Integer v = what < 10 ? null : set.get(what - 10);
            return v == null ? -1 : v;
        }

        boolean lawful(Map<String, Integer> o, int size) {
            Map<String, Integer> env = new HashMap<>(o);
            env.put("size", size);
            env.put("year", year);
            return new Read(texts[set.get(9)], true).some("may", env);
        }

        boolean asks(Map<String, Integer> o, Map<String, Integer> other, int size, String kind) {
            if (o.get("rule") == 4) {
                return kind.equals("deal");
            }
            Map<String, Integer> env = new HashMap<>(o);
            for (String s : new String[] {"kept", "broken", "large", "lost", "age"}) {
                env.put("o" + s, other.get(s));
            }
            env.put("size", size);
            env.put("year", year);
            env.put("lawful", lawful(o, size) ? 1 : 0);
            env.put("olawful", lawful(other, size) ? 1 : 0);
            Read read = new Read(texts[2 + o.get("rule")], false);
            boolean so = read.some(kind, env);
            return so || kind.equals("deal") && read.ofKind == 0;
        }

        int would(int a, int b, int size, int what) {
            if (!isOne(a) || !isOne(b) || a == b || !isSize(size) || what < 0 || what > 2) {
                return -1;
            }
            boolean so = what == 2 ? lawful(ones.get(a), size) : asks(ones.get(a), ones.get(b), size, what == 0 ? "deal" : "break");
            return so ? 1 : 0;
        }

        int purse(boolean mine, boolean other) {
            if (mine && other) return -set.get(3);
            if (mine) return set.get(1);
            if (other) return -set.get(2);
            return set.get(0);
        }

        static void add(Map<String, Integer> o, String what, int more) {
            int v = o.get(what) + more;
            if (!what.equals("purse") && !what.equals("unlawful") && v > 9999) {
                v = 9999;
            }
            o.put(what, v);
        }

        int deal(int a, int b, int size) {
            if (!isOne(a) || !isOne(b) || a == b || !isSize(size)) {
                return -2;
            }
            List<Map<String, Integer>> two = List.of(ones.get(a), ones.get(b));
            boolean[] breaks = new boolean[2];
            boolean[] may = new boolean[2];
            boolean nothing = book.size() == 300;
            for (int i = 0; i < 2; i++) {
                Map<String, Integer> me = two.get(i), other = two.get(1 - i);
                nothing |= me.get("out") > 0 || !asks(me, other, size, "deal");
                breaks[i] = asks(me, other, size, "break");
                may[i] = lawful(me, size);
            }
            if (nothing) {
                return -1;
            }
            int[] did = new int[2];
            for (int i = 0; i < 2; i++) {
                add(two.get(i), "purse", size * purse(breaks[i], breaks[1 - i]));
            }
            for (int i = 0; i < 2; i++) {
                Map<String, Integer> o = two.get(i);
                if (breaks[i]) {
                    int notice = set.get(5);
                    boolean noticed = notice == 1000 || draw(1000) < notice;
                    did[i] = !noticed ? 3 : may[i] ? 1 : 2;
                }
                if (did[i] == 0 || did[i] == 3) {
                    add(o, "kept", 1);
                    add(o, "large", size);
                } else if (did[i] == 1) {
                    add(o, "broken", 1);
                    add(o, "lost", size);
                } else {
                    add(o, "unlawful", 1);
                    o.put("out", set.get(6));
                    add(o, "purse", -size * set.get(4));
                }
            }
            book.add(new int[] {year, a, b, size, did[0], did[1], two.get(0).get("age"), two.get(1).get("age")});
            return book.size() - 1;
        }

        int years(int n) {
            if (n < 1 || n > 60 || year + n > 999) {
                return -1;
            }
            int before = book.size();
            for (int i = 0; i < n; i++) {
                year();
            }
            return book.size() - before;
        }

        void year() {
            for (int i = 0; i < set.get(8) && ones.size() >= 2 && all() > 0; i++) {
                List<Integer> left = new ArrayList<>();
                for (int j = 0; j < ones.size(); j++) {
                    left.add(j);
                }
                int a = left.remove(draw(ones.size()));
                int b = left.get(draw(ones.size() - 1));
                List<Integer> sizes = new ArrayList<>();
                for (int size = 1; size <= 12; size++) {
                    for (int j = 0; j < weight(size); j++) {
                        sizes.add(size);
                    }
                }
                deal(a, b, sizes.get(draw(sizes.size())));
            }
            for (Map<String, Integer> o : ones) {
                if (o.get("out") > 0) {
                    o.put("out", o.get("out") - 1);
                }
                if (o.get("age") < 99) {
                    o.put("age", o.get("age") + 1);
                }
                if (set.get(7) > 0 && o.get("age").equals(set.get(7))) {
                    for (String s : new String[] {"kept", "broken", "large", "lost"}) {
                        o.put(s, 0);
                    }
                }
            }
            year++;
        }

        int bookOf(int i, int what) {
            return i >= 0 && i < book.size() && what >= 0 && what < 8 ? book.get(i)[what] : -1;
        }

        static BigInteger big(long v) {
            return BigInteger.valueOf(v);
        }

        static BigInteger down(BigInteger x, long by) {
            BigInteger[] both = x.divideAndRemainder(big(by));
            return both[1].signum() < 0 ? both[0].subtract(BigInteger.ONE) : both[0];
        }

        BigInteger value(int k, int s, int need, int p, Map<Integer, BigInteger> known) {
            if (k == 0) {
                return BigInteger.ZERO;
            }
            BigInteger have = known.get(100 * k + s);
            if (have != null) {
                return have;
            }
            BigInteger sum = BigInteger.ZERO;
            for (int size = 1; size <= 12; size++) {
                BigInteger best = ofKeeping(k, s, size, need, p, known);
                if (s >= need) {
                    best = best.max(ofBreaking(k, s, size, need, p, known));
                }
                sum = sum.add(best.multiply(big(weight(size))));
            }
            BigInteger v = down(sum, all());
            known.put(100 * k + s, v);
            return v;
        }

        BigInteger ofKeeping(int k, int s, int size, int need, int p, Map<Integer, BigInteger> known) {
            return big(1000L * set.get(0) * size).add(down(value(k - 1, s == 24 ? 24 : s + 1, need, p, known).multiply(big(p)), 1000));
        }

        BigInteger ofBreaking(int k, int s, int size, int need, int p, Map<Integer, BigInteger> known) {
            return big(1000L * set.get(1) * size).add(down(value(k - 1, s - need, need, p, known).multiply(big(p)), 1000));
        }

        long plan(int k, int s, int need, int p, int what) {
            if (k < 0 || k > 60 || s < 0 || s > 24 || need < 1 || need > 9 || p < 0 || p > 1000 || all() == 0 || what < 0 || what > 2) {
                return -1000000000;
            }
            Map<Integer, BigInteger> known = new HashMap<>();
            if (what == 0) {
                return value(k, s, need, p, known).longValueExact();
            }
            if (what == 2) {
                return s == 24 ? -1000000000 : value(k, s + 1, need, p, known).subtract(value(k, s, need, p, known)).longValueExact();
            }
            if (k == 0) {
                return -1000000000;
            }
            for (int size = 1; size <= 12 && s >= need; size++) {
                if (ofBreaking(k, s, size, need, p, known).compareTo(ofKeeping(k, s, size, need, p, known)) > 0) {
                    return size;
                }
            }
            return -1;
        }

        /** By size: how a weight goes on. */
        Map<Integer, BigInteger> split(BigInteger w) {
            Map<Integer, BigInteger> parts = new TreeMap<>();
            BigInteger rest = w;
            int last = 0;
            for (int size = 1; size <= 12; size++) {
                if (weight(size) > 0) {
                    BigInteger part = down(w.multiply(big(weight(size))), all());
                    parts.put(size, part);
                    rest = rest.subtract(part);
                    last = size;
                }
            }
            parts.put(last, parts.get(last).add(rest));
            return parts;
        }

        /** SHARE, GAIN, COMMON. */
        long[] rounds(int t, int need, int r) {
            Map<Integer, BigInteger> at = new TreeMap<>();
            at.put(0, big(1000000000));
            BigInteger share = null, gain = null, common = null;
            for (int i = 0; i < r; i++) {
                share = BigInteger.ZERO;
                gain = BigInteger.ZERO;
                common = BigInteger.ZERO;
                Map<Integer, BigInteger> next = new TreeMap<>();
                for (int s : at.keySet()) {
                    Map<Integer, BigInteger> parts = split(at.get(s));
                    for (int size : parts.keySet()) {
                        BigInteger part = parts.get(size);
                        if (size >= t && s >= need) {
                            share = share.add(part);
                            gain = gain.add(part.multiply(big((long) set.get(1) * size)));
                            common = common.add(part.multiply(big((long) size * (set.get(1) - set.get(2)))));
                            next.merge(s - need, part, BigInteger::add);
                        } else {
                            gain = gain.add(part.multiply(big((long) set.get(0) * size)));
                            common = common.add(part.multiply(big(2L * size * set.get(0))));
                            next.merge(Math.min(24, s + 1), part, BigInteger::add);
                        }
                    }
                }
                at = next;
            }
            return new long[] {share.longValueExact(), down(gain, 1000000).longValueExact(), down(common, 1000000).longValueExact()};
        }

        long longer(int t, int need, int r, int what) {
            if (need < 1 || need > 9 || r < 1 || r > 200 || all() == 0) {
                return -1;
            }
            if (t == -1) {
                int best = 1;
                for (int x = 2; x <= 13; x++) {
                    if (rounds(x, need, r)[1] > rounds(best, need, r)[1]) {
                        best = x;
                    }
                }
                return best;
            }
            return t < 1 || t > 13 || what < 0 || what > 1 ? -1 : rounds(t, need, r)[what];
        }

        long common(int t, int need, int r) {
            if (t < 1 || t > 13 || need != -1 && (need < 1 || need > 9) || r < 1 || r > 200 || all() == 0) {
                return -1000000000;
            }
            if (need != -1) {
                return rounds(t, need, r)[2];
            }
            int best = 1;
            for (int x = 2; x <= 9; x++) {
                if (rounds(t, x, r)[2] > rounds(t, best, r)[2]) {
                    best = x;
                }
            }
            return best;
        }

        boolean isPair(int k, int a, int b, int need) {
            return k >= 1 && k <= 20 && a >= 0 && a <= 8 && b >= 0 && b <= 8 && need >= 1 && need <= 9 && all() > 0;
        }

        long[] gains(int k, int a, int b, int need, int t, int u) {
            Map<Integer, BigInteger> at = new TreeMap<>();
            at.put(10 * a + b, big(1000000000));
            BigInteger[] gains = {BigInteger.ZERO, BigInteger.ZERO};
            for (int i = 0; i < k; i++) {
                Map<Integer, BigInteger> next = new TreeMap<>();
                BigInteger x = BigInteger.ZERO, y = BigInteger.ZERO;
                for (int both : at.keySet()) {
                    int s = both / 10, z = both % 10;
                    Map<Integer, BigInteger> parts = split(at.get(both));
                    for (int size : parts.keySet()) {
                        boolean one = size >= t && s >= need, two = size >= u && z >= need;
                        x = x.add(parts.get(size).multiply(big((long) size * purse(one, two))));
                        y = y.add(parts.get(size).multiply(big((long) size * purse(two, one))));
                        int to = 10 * (one ? s - need : Math.min(8, s + 1)) + (two ? z - need : Math.min(8, z + 1));
                        next.merge(to, parts.get(size), BigInteger::add);
                    }
                }
                at = next;
                gains[0] = gains[0].add(down(x, 1000000));
                gains[1] = gains[1].add(down(y, 1000000));
            }
            return new long[] {gains[0].longValueExact(), gains[1].longValueExact()};
        }

        long pair(int k, int a, int b, int need, int t, int u, int what) {
            if (!isPair(k, a, b, need) || t < 1 || t > 13 || u < 1 || u > 13 || what < 0 || what > 1) {
                return -1000000000;
            }
            return gains(k, a, b, need, t, u)[what];
        }

        int holds(int k, int a, int b, int need, int what) {
            if (!isPair(k, a, b, need) || what < 0 || what > 2) {
                return -1;
            }
            long[][][] all = new long[14][14][];
            for (int t = 1; t <= 13; t++) {
                for (int u = 1; u <= 13; u++) {
                    all[t][u] = gains(k, a, b, need, t, u);
                }
            }
            List<Integer> holding = new ArrayList<>();
            for (int t = 1; t <= 13; t++) {
                for (int u = 1; u <= 13; u++) {
                    boolean so = true;
                    for (int v = 1; v <= 13; v++) {
                        so &= all[v][u][0] <= all[t][u][0] && all[t][v][1] <= all[t][u][1];
                    }
                    if (so) {
                        holding.add(20 * t + u);
                    }
                }
            }
            if (what == 0) {
                return holding.size();
            }
            int best = -1;
            long most = 0;
            for (int couple : holding) {
                long[] g = all[couple / 20][couple % 20];
                if (best == -1 || what == 2 && g[0] + g[1] > most) {
                    best = couple;
                    most = g[0] + g[1];
                }
            }
            return best;
        }

        int safe() {
            int set = 0;
            for (int who = 0; who < ones.size(); who++) {
                if (told(who, 1, 0) == -100) {
                    set += 1 << who;
                }
            }
            return set;
        }

        int named(int i) {
            List<Integer> order = new ArrayList<>();
            for (int who = 0; who < ones.size(); who++) {
                order.add(who);
            }
            Comparator<Integer> bySurplus = Comparator.comparingInt(w -> ones.get(w).get("broken") - ones.get(w).get("kept"));
            order.sort(bySurplus.thenComparingInt(w -> -ones.get(w).get("large")));
            return i >= 0 && i < order.size() ? order.get(i) : -1;
        }

        int annals(int ofYear, int what) {
            if (ofYear < 0 || ofYear > 999 || what < 0 || what > 3) {
                return -1;
            }
            int[] all = new int[4];
            for (int[] d : book) {
                if (d[0] == ofYear) {
                    all[0]++;
                    all[1] += d[3];
                    all[2] += (d[4] > 0 ? 1 : 0) + (d[5] > 0 ? 1 : 0);
                    all[3] = d[4] + d[5] > 0 ? Math.max(all[3], d[3]) : all[3];
                }
            }
            return all[what];
        }

        int coupleValue(int mine, int others, int size, boolean may) {
            if (mine * others == 0) {
                return 0;
            }
            return 1000 * size * purse(mine == 2, others == 2) - (mine == 2 && !may ? set.get(5) * set.get(4) * size : 0);
        }

        int rests(int a, int b, int size) {
            if (!isOne(a) || !isOne(b) || a == b || !isSize(size)) {
                return -1;
            }
            boolean may = lawful(ones.get(a), size), otherMay = lawful(ones.get(b), size);
            int set = 0;
            for (int i = 0; i < 9; i++) {
                int x = i / 3, y = i % 3;
                boolean rests = true;
                for (int z = 0; z < 3; z++) {
                    rests &= coupleValue(z, y, size, may) <= coupleValue(x, y, size, may);
                    rests &= coupleValue(z, x, size, otherMay) <= coupleValue(y, x, size, otherMay);
                }
                set += rests ? 1 << i : 0;
            }
            return set;
        }

        int whom(int who, int size) {
            if (!isOne(who) || !isSize(size)) {
                return -1;
            }
            int best = -1;
            for (int other = ones.size() - 1; other >= 0; other--) {
                if (other == who || ones.get(other).get("out") > 0 || would(who, other, size, 0) == 0
                    || would(other, who, size, 0) == 0 || would(other, who, size, 1) == 1) {
                    continue;
                }
                if (best == -1 || ones.get(other).get("kept") >= ones.get(best).get("kept")) {
                    best = other;
                }
            }
            return best;
        }

        int trust(int decade, int what) {
            if (decade < 0 || decade > 9 || what < 0 || what > 2) {
                return -1;
            }
            int[] all = new int[3];
            for (int[] d : book) {
                for (int i = 0; i < 2; i++) {
                    if (d[6 + i] / 10 == decade) {
                        all[0]++;
                        all[1] += d[4 + i] > 0 ? 1 : 0;
                        all[2] += d[4 + i] == 1 || d[4 + i] == 2 ? 1 : 0;
                    }
                }
            }
            return all[what];
        }

        int held(int who, int what) {
            if (!isOne(who) || what < 0 || what > 1) {
                return -10000000;
            }
            int by = ones.get(who).get(what == 0 ? "kept" : "broken");
            for (int[] d : book) {
                for (int i = 0; i < 2; i++) {
                    if (d[1 + i] == who && (what == 0 ? d[4 + i] == 0 || d[4 + i] == 3 : d[4 + i] == 1)) {
                        by--;
                    }
                }
            }
            return by;
        }

        boolean lend(int from, int to, int k, int price) {
            if (!isOne(from) || !isOne(to) || from == to || k < 1 || k > 99 || price < 0 || price > 9999) {
                return false;
            }
            if (ones.get(from).get("kept") < k || ones.get(to).get("kept") + k > 9999) {
                return false;
            }
            add(ones.get(from), "kept", -k);
            add(ones.get(to), "kept", k);
            add(ones.get(from), "purse", price);
            add(ones.get(to), "purse", -price);
            return true;
        }

        int thought(int n, int law, int what) {
            if (n < 1 || n > 30 || law < -1 || law > 1 || law >= 0 && (what < 0 || what > 3)) {
                return -10000000;
            }
            if (law == -1) {
                return thought(n, 1, 0) > thought(n, 0, 0) ? 1 : 0;
            }
            Slow other = copy();
            other.set.put(9, law);
            for (int i = 0; i < n; i++) {
                other.year();
            }
            int[] all = new int[4];
            for (int who = 0; who < ones.size(); who++) {
                all[0] += other.of(who, 7) - of(who, 7);
                all[3] += other.of(who, 8) - of(who, 8);
            }
            all[1] = other.book.size() - book.size();
            for (int[] d : other.book.subList(book.size(), other.book.size())) {
                all[2] += (d[4] > 0 ? 1 : 0) + (d[5] > 0 ? 1 : 0);
            }
            return all[what];
        }

        int told(int who, int size, int what) {
            if (!isOne(who) || !isSize(size) || what < 0 || what > 1) {
                return -100;
            }
            for (int tell = 1; tell <= 12; tell++) {
                if (lawful(ones.get(who), tell)) {
                    return what == 0 ? tell : tell - size;
                }
            }
            return -100;
        }

        /** Reads a text sign by sign and says at once whether its lines are so. */
        static final class Read {
            static final class Fault extends RuntimeException {
                private static final long serialVersionUID = 1L;
            }

            final String s;
            final boolean law;
            final List<String> tokens = new ArrayList<>();
            final List<Integer> places = new ArrayList<>();
            int at = 0;
            int open = 0;
            int fault = 0;
            int place = -1;
            int lines = 0;
            int ofKind = 0;
            boolean any = false;
            Map<String, Integer> env = null;

            Read(String s, boolean law) {
                this.s = s;
                this.law = law;
                java.util.regex.Matcher m = java.util.regex.Pattern.compile("[a-zA-Z]+|[0-9]+|[^ \\n]").matcher(s);
                while (m.find()) {
                    tokens.add(m.group());
                    places.add(m.start());
                }
                tokens.add("");
                places.add(s.length());
            }

            void check() {
                try {
                    some("none", null);
                } catch (Fault f) {
                    place = places.get(at);
                }
            }

            boolean some(String kind, Map<String, Integer> env) {
                this.env = env;
                at = 0;
                while (!tokens.get(at).isEmpty()) {
                    String head = tokens.get(at);
                    if (law ? !head.equals("may") : !head.equals("deal") && !head.equals("break")) {
                        fail(1);
                    }
                    if (lines == 16) {
                        fail(3);
                    }
                    lines++;
                    at++;
                    need("when");
                    boolean so = either();
                    need(";");
                    if (head.equals(kind)) {
                        ofKind++;
                        any |= so;
                    }
                }
                return any;
            }

            void fail(int kind) {
                fault = kind;
                throw new Fault();
            }

            void need(String token) {
                if (!tokens.get(at).equals(token)) {
                    fail(1);
                }
                at++;
            }

            boolean take(String token) {
                boolean is = tokens.get(at).equals(token);
                at += is ? 1 : 0;
                return is;
            }

            boolean either() {
                boolean so = all();
                while (take("or")) {
                    so |= all();
                }
                return so;
            }

            boolean all() {
                boolean so = condition();
                while (take("and")) {
                    so &= condition();
                }
                return so;
            }

            boolean condition() {
                String token = tokens.get(at);
                if (token.equals("not") || token.equals("(")) {
                    open++;
                    if (open == 9) {
                        fail(3);
                    }
                    at++;
                    boolean so;
                    if (token.equals("not")) {
                        so = !condition();
                    } else {
                        so = either();
                        need(")");
                    }
                    open--;
                    return so;
                }
                int x = sum();
                String sign = tokens.get(at);
                if (!sign.equals("<") && !sign.equals("=") && !sign.equals(">")) {
                    fail(1);
                }
                at++;
                int y = sum();
                return sign.equals("<") ? x < y : sign.equals("=") ? x == y : x > y;
            }

            int sum() {
                int x = product();
                while (true) {
                    if (take("+")) {
                        x += product();
                    } else if (take("-")) {
                        x -= product();
                    } else {
                        return x;
                    }
                }
            }

            int product() {
                int x = unit();
                while (true) {
                    if (take("*")) {
                        x *= unit();
                    } else if (take("/")) {
                        if (!tokens.get(at).matches("[0-9]{1,4}")) {
                            fail(1);
                        }
                        int by = Integer.parseInt(tokens.get(at));
                        if (by == 0) {
                            fail(2);
                        }
                        at++;
                        x /= by;
                    } else {
                        return x;
                    }
                }
            }

            int unit() {
                String token = tokens.get(at);
                if (token.matches("[0-9]{1,4}")) {
                    at++;
                    return Integer.parseInt(token);
                }
                String names = law ? " kept broken large lost size age year "
                    : " kept broken large lost size age year okept obroken olarge olost oage lawful olawful purse ";
                if (!token.matches("[a-z]+") || !names.contains(" " + token + " ")) {
                    fail(1);
                }
                at++;
                return env == null ? 0 : env.get(token);
            }
        }
    }
}
