import java.lang.reflect.InvocationTargetException;
import java.lang.reflect.Method;
import java.util.ArrayList;
import java.util.Arrays;
import java.util.Comparator;
import java.util.List;
import java.util.Random;

/** Runs of 512 calls, the same ones each time, on PoolsHall and on NaiveHall: each answer must be the same. */
public final class ModelTest {
    private static final int RUNS = 400;
    private static final int CALLS = 512;
    private static final int[] ODD = {Integer.MIN_VALUE, Integer.MAX_VALUE, -3, -2, -1, 14, 21, 127, 16384, 16385};

    private final Random random;
    private final PoolsHall hall = new PoolsHall();
    private final NaiveHall naive = new NaiveHall();
    private final List<Method[]> calls;
    private int left = CALLS;

    private ModelTest(long seed, List<Method[]> calls) {
        random = new Random(seed);
        this.calls = calls;
    }

    public static void main(String[] args) throws ReflectiveOperationException {
        List<Method[]> calls = callsOfFace();
        for (int run = 0; run < RUNS && !Check.anyWrong(); run++) {
            Check.begin("run " + run);
            new ModelTest(run, calls).run();
        }
        Check.finish();
    }

    private static List<Method[]> callsOfFace() throws ReflectiveOperationException {
        List<Method[]> calls = new ArrayList<>();
        Method[] face = PoolsHall.class.getDeclaredMethods();
        Arrays.sort(face, Comparator.comparing(Method::getName));
        for (Method m : face) {
            if (java.lang.reflect.Modifier.isPublic(m.getModifiers())) {
                calls.add(new Method[] {m, NaiveHall.class.getMethod(m.getName(), m.getParameterTypes())});
            }
        }
        return calls;
    }

    private void run() throws ReflectiveOperationException {
        while (left > 0 && !Check.anyWrong()) {
            int die = random.nextInt(20);
            if (die < 3) {
                betSomething();
            } else if (die == 3 && random.nextInt(3) == 0) {
                decideAll();
            } else {
                Method[] both = calls.get(random.nextInt(calls.size()));
                if (both[0].getName().equals("repeal") && random.nextInt(4) != 0) {
                    continue;
                }
                compare(both, argumentsFor(both[0]));
            }
        }
    }

    private void call(String name, Object... arguments) throws ReflectiveOperationException {
        for (Method[] both : calls) {
            if (both[0].getName().equals(name)) {
                compare(both, arguments);
            }
        }
    }

    private void compare(Method[] both, Object[] arguments) throws IllegalAccessException {
        // Nothing is promised behind an object's 512th call.
        if (left == 0) {
            return;
        }
        left--;
        String call = both[0].getName() + Arrays.toString(arguments);
        Check.due(call, answer(both[0], hall, arguments), answer(both[1], naive, arguments));
    }

    /** The answer as a number; an exception as one far from all answers. */
    private static long answer(Method m, Object on, Object[] arguments) throws IllegalAccessException {
        try {
            Object answer = m.invoke(on, arguments);
            return answer instanceof Boolean ? ((Boolean) answer ? 1 : 0) : ((Number) answer).longValue();
        } catch (InvocationTargetException e) {
            return -1000000007L - e.getCause().getClass().getName().hashCode();
        }
    }

    private Object[] argumentsFor(Method m) {
        Class<?>[] types = m.getParameterTypes();
        Object[] arguments = new Object[types.length];
        for (int i = 0; i < types.length; i++) {
            if (types[i] == boolean.class) {
                arguments[i] = random.nextBoolean();
            } else if (random.nextInt(25) == 0) {
                arguments[i] = ODD[random.nextInt(ODD.length)];
            } else {
                arguments[i] = ordinary(m.getName(), i);
            }
        }
        return arguments;
    }

    private int ordinary(String name, int i) {
        switch (name) {
            case "score":
                return i == 0 ? random.nextInt(14) : random.nextInt(3);
            case "panel":
                return i == 0 ? random.nextInt(14) : random.nextInt(5) - 1;
            case "points":
                return i == 0 ? random.nextInt(4) : random.nextInt(10);
            case "feed":
                return random.nextInt();
            case "end":
                return random.nextInt(30);
            case "line":
                return i == 0 ? couponNumber() : random.nextInt(random.nextBoolean() ? 5 : 4000);
            case "below":
                return i == 0 ? couponNumber() : random.nextInt(16385);
            case "win":
            case "could":
            case "sure":
                return i == 0 ? couponNumber() : random.nextInt(60);
            case "house":
                return i == 0 ? random.nextInt(2) : random.nextInt(random.nextBoolean() ? 8 : 101);
            case "dividend":
                return random.nextInt(i == 0 ? 60 : i == 1 ? 40 : random.nextBoolean() ? 50 : 1000000) + (i == 2 ? 1 : 0);
            case "divided":
                return random.nextInt(i == 0 ? 4 : 6);
            case "prize":
                return i == 0 ? couponNumber() : random.nextInt(6) - 1;
            case "told":
                return i == 0 ? couponNumber() : random.nextInt(7);
            case "coupon":
                return random.nextInt(12);
            case "count":
                return random.nextInt(9);
            case "fault":
                return random.nextInt(2);
            default:
                return couponNumber();
        }
    }

    private int couponNumber() {
        return random.nextInt((int) naive.count(1) + 2) % 21;
    }

    private void decideAll() throws ReflectiveOperationException {
        for (int m = 0; m < 14; m++) {
            if (random.nextBoolean()) {
                call("score", m, random.nextInt(3), random.nextInt(3));
            } else {
                call("panel", m, random.nextInt(4));
            }
        }
        call("settle");
        for (int i = 0; i < 6; i++) {
            call("prize", i, random.nextInt(4) - 1);
            call("count", 4 + i % 3);
            call("divided", i % 4, 3 + i % 3);
        }
    }

    private void betSomething() throws ReflectiveOperationException {
        String text = plan(0);
        if (random.nextInt(3) == 0) {
            text = spoilt(text);
        }
        if (text.length() > 200) {
            text = text.substring(0, 200);
        }
        call("end", 0);
        for (int from = 0; from < text.length(); from += 20) {
            int[] n = Check.numbersOf(text, from);
            call("feed", n[0], n[1], n[2], n[3], n[4]);
        }
        call("end", text.length());
        call("coupon", 1 + random.nextInt(random.nextBoolean() ? 3 : 100), 1 + random.nextInt(9));
        call("fault", 0);
        call("fault", 1);
        call("told", Math.max(0, (int) naive.count(1) - 1), random.nextInt(7));
    }

    private String plan(int open) {
        StringBuilder text = new StringBuilder(alternative(open));
        for (int i = random.nextInt(3); i > 0; i--) {
            text.append("|&-|".charAt(random.nextInt(4))).append(alternative(open));
        }
        return text.toString();
    }

    private String alternative(int open) {
        StringBuilder text = new StringBuilder(part(open));
        for (int i = random.nextInt(4) - 1; i > 0; i--) {
            text.append('+').append(part(open));
        }
        return text.toString();
    }

    private String part(int open) {
        if (open < 7 && random.nextInt(4) == 0) {
            return "(" + plan(open + 1) + ")";
        }
        List<Integer> matches = new ArrayList<>();
        for (int m = 0; m < 14; m++) {
            matches.add(m);
        }
        java.util.Collections.shuffle(matches, random);
        int size = 1 + random.nextInt(random.nextInt(6) == 0 ? 10 : 4);
        StringBuilder text = new StringBuilder();
        if (random.nextInt(2) == 0) {
            text.append(random.nextInt(8) == 0 ? "0" : "").append(random.nextInt(size + 1)).append(':');
        }
        for (int i = 0; i < size; i++) {
            text.append(i == 0 ? "" : ".").append(matches.get(i) < 10 && random.nextInt(9) == 0 ? "0" : "").append(matches.get(i));
        }
        return text.toString();
    }

    private String spoilt(String text) {
        StringBuilder spoilt = new StringBuilder(text);
        String signs = "0123456789.:+|&-()((x \u00FF";
        for (int i = random.nextInt(2); i >= 0; i--) {
            int at = random.nextInt(spoilt.length() + 1);
            char sign = signs.charAt(random.nextInt(signs.length()));
            int way = random.nextInt(3);
            if (way == 0 || at == spoilt.length()) {
                spoilt.insert(at, sign);
            } else if (way == 1) {
                spoilt.setCharAt(at, sign);
            } else if (spoilt.length() > 1) {
                spoilt.deleteCharAt(at);
            }
        }
        return spoilt.toString();
    }
}
