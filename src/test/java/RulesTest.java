import java.io.IOException;
import java.lang.management.ManagementFactory;
import java.lang.reflect.Constructor;
import java.lang.reflect.Field;
import java.lang.reflect.Method;
import java.lang.reflect.Modifier;
import java.nio.charset.StandardCharsets;
import java.nio.file.Files;
import java.nio.file.Path;
import java.util.ArrayList;
import java.util.Arrays;
import java.util.HashSet;
import java.util.List;
import java.util.Set;
import java.util.TreeSet;
import java.util.regex.Matcher;
import java.util.regex.Pattern;

/** The document's face, and what of LANGUAGE.md can be seen from outside. */
public final class RulesTest {
    private static final String FACE = "world(int,int) port(int,int,int) ship(int,int,int,int) loop(int,int,int,int) "
        + "turn(int,int) shipTold(int,int) count(int) passes(int,int) here(int,int) often(int,int,int,int) "
        + "next(int,int,int) meets(int,int,int,int) seldom(int,int) miss(int,int,int) waits(int,int,int) "
        + "choose(int,int,int,int) feed(long,int) text() force(int) fuel(int,int,int,int,int) soon(int,int,int,int) "
        + "reach(int,int,int,int) least(int,int,int,int,int) edge(int,int,int,int,int) bears(int,int,int,int) "
        + "needed(int,int,int,int) judge(int,int,int,int,int) toldFuel(int,int,int,int,int) fewest(int,int) lacks(int) "
        + "trip(int,int,int,int) ride(int,int) aboard(int,int,int) book(int) most(int) together(int,int,int,int,int) "
        + "bread(int,int) grow(int,int) image() back() sheet(int,int,int) cell(int,int,int) copy(int,int,int,int,int) "
        + "tripsBy(int,int,int,int) taken(int,int)";

    private static int wrong = 0;

    private static void must(boolean is, String what) {
        if (!is) {
            wrong++;
            System.out.println("not so: " + what);
        }
    }

    public static void main(String[] args) throws IOException {
        face();
        classesInside();
        Path file = Path.of("src/main/java/NeverStop.java");
        must(Files.exists(file), "run from the project's folder");
        if (Files.exists(file)) {
            String source = Files.readString(file, StandardCharsets.ISO_8859_1);
            words(bare(source));
            methods(bare(source));
            library(bare(source));
        }
        extremes();
        littleIsMade();
        System.out.println(wrong == 0 ? "all rules are kept" : wrong + " rules are not kept");
        if (wrong != 0) {
            System.exit(1);
        }
    }

    private static void face() {
        Class<?> it = NeverStop.class;
        must(Modifier.isPublic(it.getModifiers()) && Modifier.isFinal(it.getModifiers()), "public and final");
        Set<String> due = new TreeSet<>(Arrays.asList(FACE.split(" ")));
        Set<String> is = new TreeSet<>();
        Set<String> names = new HashSet<>();
        for (Method m : it.getDeclaredMethods()) {
            if (Modifier.isPublic(m.getModifiers())) {
                StringBuilder told = new StringBuilder();
                for (Class<?> p : m.getParameterTypes()) {
                    told.append(told.length() == 0 ? "" : ",").append(p.getName());
                }
                is.add(m.getName() + "(" + told + ")");
                names.add(m.getName());
                must(m.getReturnType() == int.class && !Modifier.isStatic(m.getModifiers()), m.getName() + " answers an int");
            } else {
                must(Modifier.isPrivate(m.getModifiers()), m.getName() + " is private");
            }
        }
        must(is.equals(due), "the public methods are those of the document");
        privateNames(it, names);
        for (Class<?> c : it.getDeclaredClasses()) {
            privateNames(c, names);
        }
        Constructor<?>[] made = it.getDeclaredConstructors();
        must(made.length == 1 && Modifier.isPublic(made[0].getModifiers()) && made[0].getParameterCount() == 0, "one constructor");
        Set<String> constants = new TreeSet<>();
        for (Field f : it.getDeclaredFields()) {
            if (!Modifier.isPrivate(f.getModifiers())) {
                constants.add(f.getName());
            }
        }
        must(constants.equals(new TreeSet<>(Arrays.asList("NONE", "BAD", "STATE", "FULL", "NO"))), "the constants");
        must(NeverStop.NONE == -1 && NeverStop.BAD == -2 && NeverStop.STATE == -3 && NeverStop.FULL == -4, "their values");
        must(NeverStop.NO == -4611686018427387904L, "NO");
    }

    private static void privateNames(Class<?> it, Set<String> publicOnes) {
        for (Method m : it.getDeclaredMethods()) {
            must(Modifier.isPublic(m.getModifiers()) || !publicOnes.contains(m.getName()), m.getName() + " is a public one's name");
        }
    }

    private static void classesInside() {
        Class<?>[] inside = NeverStop.class.getDeclaredClasses();
        must(inside.length <= 12, "some twelve classes");
        List<Class<?>> all = new ArrayList<>(Arrays.asList(inside));
        all.add(NeverStop.class);
        for (Class<?> c : all) {
            int fields = 0;
            for (Field f : c.getDeclaredFields()) {
                if (Modifier.isStatic(f.getModifiers())) {
                    must(Modifier.isFinal(f.getModifiers()), c + "." + f.getName() + " is final");
                } else {
                    fields++;
                }
            }
            must(fields <= 20, c + " has some twenty fields");
            if (c != NeverStop.class) {
                must(Modifier.isStatic(c.getModifiers()) && !Modifier.isPublic(c.getModifiers()), c + " is static and not public");
            }
            for (Method m : c.getDeclaredMethods()) {
                must(m.getParameterCount() <= 7, m + " takes at most seven");
            }
        }
    }

    /** The source without comments, texts and signs. */
    private static String bare(String source) {
        String noComments = source.replaceAll("(?s)/\\*.*?\\*/", "").replaceAll("//[^\n]*", "");
        return noComments.replaceAll("\"[^\"\n]*\"", "\"\"").replaceAll("'(\\\\.|[^'\\\\])'", "0");
    }

    private static void words(String source) {
        String[] none = {"throw", "throws", "try", "catch", "finally", "synchronized", "assert", "import", "package", "native",
            "volatile", "transient", "System\\.(?!arraycopy)", "Object", "Thread", "Random", "new String", "hashCode", "toString"};
        for (String word : none) {
            must(!Pattern.compile("\\b" + word + "\\b").matcher(source).find(), "no " + word);
        }
        must(!source.contains("->") && !source.contains("::"), "no lambda, no method reference");
        must(!Pattern.compile("while\\s*\\(").matcher(source).find(), "no loop without a counter");
        must(!Pattern.compile("for\\s*\\([^;]*;\\s*;").matcher(source).find(), "no loop without an end");
        must(!Pattern.compile("\"\"\\s*\\+|\\+\\s*\"\"").matcher(source).find(), "no texts joined by +");
        for (int i = 0; i < source.length(); i++) {
            if (source.charAt(i) > 126) {
                must(false, "a sign above 126");
            }
        }
    }

    /** No class but its own and String, Math, System; of Math and System only what LANGUAGE.md lists. */
    private static void library(String source) {
        Set<String> known = new HashSet<>(Arrays.asList("NeverStop", "String", "Math", "System"));
        for (Class<?> c : NeverStop.class.getDeclaredClasses()) {
            known.add(c.getSimpleName());
        }
        Matcher m = Pattern.compile("\\b[A-Z]\\w*[a-z]\\w*").matcher(source);
        while (m.find()) {
            must(known.contains(m.group()), m.group() + " is none of its classes");
        }
        Matcher used = Pattern.compile("\\b(Math|System)\\.(\\w+)").matcher(source);
        Set<String> listed = new HashSet<>(Arrays.asList("max", "min", "abs", "floorMod", "floorDiv", "arraycopy"));
        while (used.find()) {
            must(listed.contains(used.group(2)), used.group() + " is listed");
        }
    }

    private static void methods(String source) {
        Matcher m = Pattern.compile("(?m)^ {4,8}[a-zA-Z][^\n=;]*\\) \\{$").matcher(source);
        int found = 0;
        while (m.find()) {
            int depth = 0;
            int lines = 1;
            for (int i = m.end() - 1; i < source.length(); i++) {
                char c = source.charAt(i);
                depth += c == '{' ? 1 : c == '}' ? -1 : 0;
                lines += c == '\n' ? 1 : 0;
                if (depth == 0) {
                    break;
                }
            }
            found++;
            must(lines <= 60, "short: " + m.group().trim());
        }
        must(found > 80, "methods are found");
    }

    /** No call throws, whatever it is asked and whenever. */
    private static void extremes() {
        int[] odd = {Integer.MIN_VALUE, -1, 0, 1, 2, 3, 8, 9, 40, 99, 200, 20000, Integer.MAX_VALUE - 3, Integer.MAX_VALUE};
        for (int round = 0; round < 2; round++) {
            for (Method m : NeverStop.class.getDeclaredMethods()) {
                if (!Modifier.isPublic(m.getModifiers())) {
                    continue;
                }
                NeverStop x = round == 0 ? new NeverStop() : busy();
                int p = m.getParameterCount();
                long picks = (long) Math.pow(odd.length, Math.min(p, 4));
                for (long pick = 0; pick < picks; pick += p < 4 ? 1 : 7) {
                    Object[] a = new Object[p];
                    long rest = pick;
                    for (int i = 0; i < p; i++) {
                        int v = i < 4 ? odd[(int) (rest % odd.length)] : odd[(int) ((pick * 31) % odd.length)];
                        rest /= odd.length;
                        a[i] = m.getParameterTypes()[i] == long.class ? (Object) (long) v : (Object) v;
                    }
                    try {
                        m.invoke(x, a);
                    } catch (ReflectiveOperationException e) {
                        must(false, m.getName() + Arrays.toString(a) + " threw " + e.getCause());
                    }
                }
            }
        }
    }

    /** As many of all things as there can be. */
    private static NeverStop busy() {
        NeverStop x = new NeverStop();
        for (int w = 0; w < 4; w++) {
            x.world(w, 1 + w);
        }
        for (int s = 0; s < 9; s++) {
            x.ship(s % 6, 2 + 5 * s, 3 * s, 9 + 10 * s);
            for (int w = 0; w < 4; w++) {
                x.loop(s, w, (s + w) % (2 + 5 * s), w);
            }
        }
        for (int i = 0; i < 10; i++) {
            x.trip(i % 4, (i + 1) % 4, 5 * i, 3 + i);
        }
        for (int s = 0; s < 4; s++) {
            x.sheet(s, s % 3, 12 + s);
        }
        x.image();
        return x;
    }

    /** Behind what is kept, calls make next to nothing: all calls of a run live in one room. */
    private static void littleIsMade() {
        java.lang.management.ThreadMXBean bean = ManagementFactory.getThreadMXBean();
        if (!(bean instanceof com.sun.management.ThreadMXBean)) {
            return;
        }
        com.sun.management.ThreadMXBean counts = (com.sun.management.ThreadMXBean) bean;
        long least = Long.MAX_VALUE;
        for (int i = 0; i < 5; i++) {
            NeverStop x = busy();
            long ahead = counts.getThreadAllocatedBytes(Thread.currentThread().getId());
            queries(x);
            least = Math.min(least, counts.getThreadAllocatedBytes(Thread.currentThread().getId()) - ahead);
        }
        must(least < 20000, "500 calls made " + least + " bytes");
    }

    private static void queries(NeverStop x) {
        for (int i = 0; i < 20; i++) {
            x.here(1, i);
            x.often(2, 1, i, 4000);
            x.meets(1, 2, 3, i);
            x.seldom(2, 1);
            x.waits(1, i, 200);
            x.choose(1, 2, 200, 1);
            x.feed(0x6361746368203120L, 8);
            x.text();
            x.fuel(0, 1, 1, i, 5);
            x.soon(0, 3, i, 60);
            x.reach(0, i, 5, 200);
            x.least(0, 3, i, 5, 200);
            x.edge(0, 3, i, 5, -1);
            x.bears(0, 3, i, 5);
            x.needed(0, 3, i, 5);
            x.judge(0, 3, i, 5, 0);
            x.lacks(0);
            x.ride(3, 1);
            x.book(1023);
            x.most(1);
            x.together(0, 1, i, 5, 0);
            x.image();
            x.back();
            x.sheet(0, 0, 40);
            x.copy(0, 0, 0, 1, 30);
        }
    }
}
