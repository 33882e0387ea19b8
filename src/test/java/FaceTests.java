import java.lang.management.ManagementFactory;
import java.lang.reflect.Constructor;
import java.lang.reflect.Field;
import java.lang.reflect.Method;
import java.lang.reflect.Modifier;
import java.nio.charset.StandardCharsets;
import java.nio.file.Files;
import java.nio.file.Path;
import java.util.Arrays;
import java.util.HashSet;
import java.util.List;
import java.util.Set;
import java.util.TreeSet;
import java.util.regex.Matcher;
import java.util.regex.Pattern;

/** The document's face and no more; those rules of LANGUAGE.md that can be seen from outside; the room. */
public final class FaceTests {
    private static final String[] FACE = {
        "int state(int)", "int one(int,int)", "boolean stick(int,int,int)", "boolean set(int,int)",
        "int feed(int,int,int,int,int)", "boolean end(int)", "int text(int)", "int fault(int)", "int of(int,int)",
        "int would(int,int,int,int)", "int deal(int,int,int)", "int book(int,int)", "int years(int)",
        "long plan(int,int,int,int,int)", "long longer(int,int,int,int)", "long common(int,int,int)",
        "long pair(int,int,int,int,int,int,int)", "int holds(int,int,int,int,int)", "int safe()", "int named(int)",
        "int annals(int,int)", "int rests(int,int,int)", "int whom(int,int)", "int trust(int,int)", "int held(int,int)",
        "boolean lend(int,int,int,int)", "int thought(int,int,int)", "int told(int,int,int)", "boolean image(boolean)",
        "int look(int)"};
    private static final int MOST_LINES_OF_A_METHOD = 60;
    private static int wrong = 0;

    private static void due(String what, boolean holds) {
        if (!holds) {
            wrong++;
            System.out.println("not so: " + what);
        }
    }

    public static void main(String[] args) throws Exception {
        face();
        insides();
        source();
        room();
        anyArguments();
        System.out.println(wrong == 0 ? "the face is as told" : wrong + " wrong");
        if (wrong != 0) {
            System.exit(1);
        }
    }

    private static void face() {
        Class<?> c = NotchSticks.class;
        due("public and final", Modifier.isPublic(c.getModifiers()) && Modifier.isFinal(c.getModifiers()));
        Set<String> names = new HashSet<>();
        Set<String> seen = new TreeSet<>();
        for (Method m : c.getDeclaredMethods()) {
            if (!Modifier.isPrivate(m.getModifiers()) && !m.isSynthetic()) {
                due("public: " + m, Modifier.isPublic(m.getModifiers()));
                StringBuilder types = new StringBuilder();
                for (Class<?> p : m.getParameterTypes()) {
                    types.append(types.length() == 0 ? "" : ",").append(p.getName());
                }
                seen.add(m.getReturnType().getName() + " " + m.getName() + "(" + types + ")");
                names.add(m.getName());
            }
        }
        due("the methods: " + seen, seen.equals(new TreeSet<>(Arrays.asList(FACE))));
        for (Method m : c.getDeclaredMethods()) {
            due("no private namesake: " + m, !Modifier.isPrivate(m.getModifiers()) || !names.contains(m.getName()));
        }
        for (Field f : c.getDeclaredFields()) {
            due("private: " + f, Modifier.isPrivate(f.getModifiers()) || f.getName().equals("NONE"));
        }
        Constructor<?>[] made = c.getDeclaredConstructors();
        due("one constructor", made.length == 1 && Modifier.isPublic(made[0].getModifiers())
            && made[0].getParameterCount() == 0);
    }

    private static void insides() {
        Set<String> names = new HashSet<>();
        for (Method m : NotchSticks.class.getMethods()) {
            names.add(m.getName());
        }
        Class<?>[] inside = NotchSticks.class.getDeclaredClasses();
        due("at most twelve classes", inside.length < 12);
        for (Class<?> c : inside) {
            due("static: " + c, Modifier.isStatic(c.getModifiers()));
            int fields = 0;
            for (Field f : c.getDeclaredFields()) {
                boolean isStatic = Modifier.isStatic(f.getModifiers());
                due("no static state: " + f, !isStatic || Modifier.isFinal(f.getModifiers()));
                fields += isStatic ? 0 : 1;
            }
            due("some twenty fields: " + c, fields <= 20);
            for (Method m : c.getDeclaredMethods()) {
                due("seven parameters: " + m, m.getParameterCount() <= 7);
                due("no namesake of the face: " + m, m.isSynthetic() || !names.contains(m.getName()));
            }
        }
    }

    private static void source() throws Exception {
        Path file = Path.of("src/main/java/NotchSticks.java");
        List<String> lines = Files.readAllLines(file, StandardCharsets.ISO_8859_1);
        int start = -1;
        for (int i = 0; i < lines.size(); i++) {
            String line = lines.get(i);
            for (char ch : line.toCharArray()) {
                due("plain signs in line " + (i + 1), ch >= ' ' && ch < 127);
            }
            if (line.startsWith("import ")) {
                due("import: " + line, line.matches("import java\\.util\\.(Arrays|ArrayList|List|Iterator);"));
            }
            String code = line.replaceAll("\"[^\"]*\"", "\"\"").replaceAll("^\\s*(//|/\\*\\*).*", "");
            Matcher bad = Pattern.compile("\\b(throw|throws|try|catch|synchronized|assert|package|native|volatile"
                + "|\\w*Exact|Random|Thread|double|float|hashCode|toString)\\b|->|::|@|\"\\s*\\+|\\+\\s*\"").matcher(code);
            due("line " + (i + 1) + ": " + line, !bad.find());
            if (code.matches("    (    )?\\S.*\\) \\{")) {
                start = i;
            }
            if (code.matches("    (    )?\\}") && start >= 0) {
                due("short: line " + (start + 1), i - start <= MOST_LINES_OF_A_METHOD);
                start = -1;
            }
        }
    }

    /** 512 calls of the dearest kinds stay far below 7.3 million elements, of at most eight bytes each. */
    private static void room() {
        com.sun.management.ThreadMXBean bean = (com.sun.management.ThreadMXBean) ManagementFactory.getThreadMXBean();
        long id = Thread.currentThread().getId();
        NotchSticks[] all = new NotchSticks[512];
        long before = bean.getThreadAllocatedBytes(id);
        for (int i = 0; i < all.length; i++) {
            all[i] = new NotchSticks();
        }
        long made = bean.getThreadAllocatedBytes(id);
        due("512 objects: " + (made - before) + " bytes", made - before < 16000000);
        NotchSticks x = all[0];
        for (int i = 0; i < 12; i++) {
            x.one(i, i % 5);
        }
        for (int i = 0; i < 100; i++) {
            x.years(5);
            x.image(i % 2 == 0);
            x.thought(30, -1, 0);
            x.feed(0x6d617920, 0x7768656e, 0x20313d31, 0x3b202020, 0x20202020);
            x.text(i % 2);
        }
        long used = bean.getThreadAllocatedBytes(id);
        due("500 calls: " + (used - made) + " bytes", used - made < 2000000);
    }

    /** No call throws, whatever it is given. */
    private static void anyArguments() throws Exception {
        int[] some = {Integer.MIN_VALUE, Integer.MIN_VALUE + 9, -2, -1, 0, 1, 2, 5, 12, 13, 20, 22, 23, 60, 99, 100, 400, 999,
            1000, 9999, Integer.MAX_VALUE - 9, Integer.MAX_VALUE};
        java.util.Random random = new java.util.Random(5);
        for (int run = 0; run < 60; run++) {
            NotchSticks x = new NotchSticks();
            for (int call = 0; call < 512; call++) {
                Method[] all = NotchSticks.class.getDeclaredMethods();
                Method m = all[random.nextInt(all.length)];
                if (!Modifier.isPublic(m.getModifiers())) {
                    continue;
                }
                Object[] given = new Object[m.getParameterCount()];
                for (int i = 0; i < given.length; i++) {
                    given[i] = m.getParameterTypes()[i] == boolean.class ? (Object) random.nextBoolean()
                        : (Object) some[random.nextInt(some.length)];
                }
                try {
                    m.invoke(x, given);
                } catch (java.lang.reflect.InvocationTargetException e) {
                    due(m + " of " + Arrays.toString(given) + " threw " + e.getCause(), false);
                }
            }
        }
    }
}
