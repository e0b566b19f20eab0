import java.io.IOException;
import java.lang.management.ManagementFactory;
import java.lang.reflect.Constructor;
import java.lang.reflect.Field;
import java.lang.reflect.Method;
import java.lang.reflect.Modifier;
import java.nio.file.Files;
import java.nio.file.Path;
import java.util.Set;
import java.util.TreeSet;
import java.util.regex.Pattern;

/** The class has the document's face and no more, keeps to what a look at the source can tell, and stays small. */
public final class FaceTest {
    private static final String[] FACE = {
        "boolean score(int,int,int)", "boolean panel(int,int)", "int outcome(int)", "boolean points(int,int)",
        "int feed(int,int,int,int,int)", "boolean end(int)", "int coupon(int,int)", "int fault(int)",
        "boolean tear(int,boolean)", "int told(int,int)", "int line(int,int)", "int below(int,int)",
        "int unlike(int,int)", "int win(int,int)", "int best(int)", "int still(int)", "int could(int,int)",
        "int sure(int,int)", "int house(int,int)", "int dividend(int,int,int)", "int repeal()", "long settle()",
        "long count(int)", "long divided(int,int)", "long prize(int,int)", "int undo()"
    };

    /** What LANGUAGE.md leaves out, as far as a pattern can find it in the source without its comments. */
    private static final String[] LEFT_OUT = {
        "->", "::", "\\bfinally\\b", "\\btry\\b", "\\bcatch\\b", "\\bsynchronized\\b", "\\bassert\\b", "\\bstatic \\{",
        "\\bpackage\\b", "\\bprotected\\b", "Exact\\(", "\\bSystem\\.(?!arraycopy)", "\\bwhile\\b", "\\bRandom\\b", "\\bThread\\b"
    };

    private FaceTest() {
    }

    public static void main(String[] args) throws IOException {
        face();
        source();
        room();
        Check.finish();
    }

    private static void face() {
        Check.begin("face");
        Class<?> c = PoolsHall.class;
        Check.due("public and final", Modifier.isPublic(c.getModifiers()) && Modifier.isFinal(c.getModifiers()), true);
        Set<String> due = new TreeSet<>(Set.of(FACE));
        Set<String> publicNames = new TreeSet<>();
        for (Method m : c.getDeclaredMethods()) {
            if (!Modifier.isPrivate(m.getModifiers())) {
                Check.due(signature(m), due.remove(signature(m)) && Modifier.isPublic(m.getModifiers()), true);
                publicNames.add(m.getName());
            }
        }
        Check.due("methods that are missing: " + due, due.size(), 0);
        for (Field f : c.getDeclaredFields()) {
            Check.due(f.getName(), Modifier.isPrivate(f.getModifiers()) || f.getName().equals("NONE"), true);
        }
        Constructor<?>[] made = c.getDeclaredConstructors();
        Check.due("constructors", made.length, 1);
        Check.due("constructor's parameters", made[0].getParameterCount(), 0);
        Check.due("told's exceptions", toldsExceptions(c), 1);
        insides(c, publicNames);
    }

    private static void insides(Class<?> c, Set<String> publicNames) {
        Check.due("at most twelve classes", c.getDeclaredClasses().length <= 11, true);
        for (Class<?> inside : c.getDeclaredClasses()) {
            Check.due(inside.getName() + " is static", Modifier.isStatic(inside.getModifiers()), true);
            Check.due(inside.getName() + " is not public", Modifier.isPublic(inside.getModifiers()), false);
            for (Method m : inside.getDeclaredMethods()) {
                Check.due(inside.getName() + "." + m.getName() + " bears a public name", publicNames.contains(m.getName()), false);
            }
        }
        for (Method m : c.getDeclaredMethods()) {
            boolean hidden = Modifier.isPrivate(m.getModifiers());
            Check.due(m.getName() + " bears a public name", hidden && publicNames.contains(m.getName()), false);
        }
    }

    private static long toldsExceptions(Class<?> c) {
        for (Method m : c.getDeclaredMethods()) {
            if (m.getName().equals("told")) {
                Class<?>[] thrown = m.getExceptionTypes();
                return thrown.length == 1 && thrown[0] == java.util.NoSuchElementException.class ? 1 : 0;
            }
        }
        return 0;
    }

    private static String signature(Method m) {
        StringBuilder text = new StringBuilder(m.getReturnType().getSimpleName()).append(' ').append(m.getName()).append('(');
        for (int i = 0; i < m.getParameterCount(); i++) {
            text.append(i == 0 ? "" : ",").append(m.getParameterTypes()[i].getSimpleName());
        }
        return text.append(')').toString();
    }

    private static void source() throws IOException {
        Check.begin("source");
        String text = Files.readString(Path.of("src/main/java/PoolsHall.java"));
        Check.due("signs 0 to 127 alone", text.chars().allMatch(s -> s < 128), true);
        String code = text.replaceAll("(?s)/\\*.*?\\*/", "").replaceAll("//[^\n]*", "");
        for (String pattern : LEFT_OUT) {
            Check.due(pattern + " is found", Pattern.compile(pattern).matcher(code).find(), false);
        }
    }

    /** 512 calls that take as many coupons as can be, each with brackets and joined lines. */
    private static void room() {
        Check.begin("room");
        com.sun.management.ThreadMXBean threads = (com.sun.management.ThreadMXBean) ManagementFactory.getThreadMXBean();
        int[] n = Check.numbersOf("0|1+(2|3+(4|5+(06)))", 0);
        long ahead = threads.getThreadAllocatedBytes(Thread.currentThread().getId());
        PoolsHall x = new PoolsHall();
        int taken = 0;
        // Nine weeks of 40 calls for twenty coupons and 15 to settle them, and 17 calls more.
        for (int call = 0; call < 512; call++) {
            int inWeek = call % 55;
            if (inWeek < 40 && inWeek % 2 == 0) {
                x.feed(n[0], n[1], n[2], n[3], n[4]);
            } else if (inWeek < 40) {
                taken += x.coupon(1, 1) >= 0 ? 1 : 0;
            } else if (inWeek < 54) {
                x.panel(inWeek - 40, 0);
            } else {
                x.settle();
            }
        }
        long made = threads.getThreadAllocatedBytes(Thread.currentThread().getId()) - ahead;
        Check.due("coupons taken", taken, 188);
        // A set of lines takes some 2100 bytes: 188 coupons' and the reader's, and nothing else of note.
        Check.due("bytes made are few: " + made, made < 500000, true);
    }
}
