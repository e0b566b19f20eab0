import java.util.ArrayList;
import java.util.List;
import java.util.NoSuchElementException;
import java.util.TreeSet;
import java.util.regex.Matcher;
import java.util.regex.Pattern;

/** The document written a second time, as plainly as can be, for ModelTest to hold PoolsHall against. */
public final class NaiveHall {
    private static final Pattern K = Pattern.compile("([0-9][0-9]?):");
    private static final Pattern M = Pattern.compile("[0-9][0-9]?");

    private static final class Bet {
        TreeSet<Integer> lines;
        int price;
        int parts;
        boolean isVoid;
        long prize;

        Bet copy() {
            Bet b = new Bet();
            b.lines = lines;
            b.price = price;
            b.parts = parts;
            b.isVoid = isVoid;
            b.prize = prize;
            return b;
        }
    }

    private static final class State {
        long week;
        long hall;
        long paid;
        int[][] scores = new int[14][];
        Integer[] panels = new Integer[14];
        List<Bet> bets = new ArrayList<>();
        List<Bet> settled = new ArrayList<>();
        List<long[]> dividends = new ArrayList<>();

        State copy() {
            State s = new State();
            s.week = week;
            s.hall = hall;
            s.paid = paid;
            s.scores = scores.clone();
            s.panels = panels.clone();
            for (Bet b : bets) {
                s.bets.add(b.copy());
            }
            for (Bet b : settled) {
                s.settled.add(b.copy());
            }
            for (long[] d : dividends) {
                s.dividends.add(d.clone());
            }
            return s;
        }
    }

    private State s = new State();
    private State before = null;
    private final int[] points = {2, 3, 4, 6};
    private int hall = 30;
    private int unit = 1;
    private String tape = "";
    private int[] fault = {0, 0};

    public boolean score(int match, int home, int away) {
        if (match < 0 || match > 13 || home < 0 || home > 20 || away < 0 || away > 20) {
            return false;
        }
        s.scores[match] = new int[] {home, away};
        return true;
    }

    public boolean panel(int match, int outcome) {
        if (match < 0 || match > 13 || outcome < -1 || outcome > 3) {
            return false;
        }
        s.scores[match] = null;
        s.panels[match] = outcome == -1 ? null : outcome;
        return true;
    }

    public int outcome(int match) {
        if (match < 0 || match > 13) {
            return -1;
        }
        int[] score = s.scores[match];
        if (score == null) {
            return s.panels[match] == null ? -1 : s.panels[match];
        }
        return score[0] > score[1] ? 0 : score[0] < score[1] ? 1 : score[0] == 0 ? 2 : 3;
    }

    public boolean points(int outcome, int v) {
        if (outcome < 0 || outcome > 3 || v < 0 || v > 9) {
            return false;
        }
        points[outcome] = v;
        return true;
    }

    public int feed(int a, int b, int c, int d, int e) {
        if (tape.length() + 20 > 200) {
            return -1;
        }
        StringBuilder more = new StringBuilder(tape);
        for (int n : new int[] {a, b, c, d, e}) {
            more.append((char) (n >>> 24)).append((char) ((n >>> 16) & 255));
            more.append((char) ((n >>> 8) & 255)).append((char) (n & 255));
        }
        tape = more.toString();
        return tape.length();
    }

    public boolean end(int n) {
        if (n < 0 || n > tape.length()) {
            return false;
        }
        tape = tape.substring(0, n);
        return true;
    }

    public int coupon(int price, int parts) {
        String text = tape;
        tape = "";
        fault = new int[] {0, 0};
        if (price < 1 || price > 100 || parts < 1 || parts > 9 || s.bets.size() == 20) {
            return -1;
        }
        fault = faultOf(text);
        if (fault[0] != 0) {
            return -1;
        }
        Bet b = new Bet();
        b.lines = linesOf(text);
        b.price = price;
        b.parts = parts;
        s.bets.add(b);
        return s.bets.size() - 1;
    }

    public int fault(int what) {
        return what == 0 || what == 1 ? fault[what] : -1;
    }

    public boolean tear(int coupon, boolean is) {
        if (bet(coupon) == null) {
            return false;
        }
        bet(coupon).isVoid = is;
        return true;
    }

    public int told(int coupon, int what) {
        Bet b = bet(coupon);
        if (b == null || what < 0 || what > 6) {
            throw new NoSuchElementException();
        }
        int some = 0;
        int all = 16383;
        for (int number : b.lines) {
            some |= number;
            all &= number;
        }
        int size = b.lines.size();
        return new int[] {size, size * b.price, b.isVoid ? 1 : 0, b.price, b.parts, some, all}[what];
    }

    public int line(int coupon, int i) {
        Bet b = bet(coupon);
        return b == null || i < 0 || i >= b.lines.size() ? -1 : new ArrayList<>(b.lines).get(i);
    }

    public int below(int coupon, int number) {
        Bet b = bet(coupon);
        return b == null || number < 0 || number > 16384 ? -1 : b.lines.headSet(number).size();
    }

    public int unlike(int a, int b) {
        if (bet(a) == null || bet(b) == null) {
            return -2;
        }
        for (int number = 0; number < 16384; number++) {
            if (bet(a).lines.contains(number) != bet(b).lines.contains(number)) {
                return number;
            }
        }
        return -1;
    }

    public int win(int coupon, int wanted) {
        List<Integer> all = pointsOf(coupon, 0);
        return all == null ? -1 : (int) all.stream().filter(p -> p == wanted).count();
    }

    public int best(int coupon) {
        return most(pointsOf(coupon, 0));
    }

    public int still(int coupon) {
        return most(pointsOf(coupon, dearest()));
    }

    public int could(int coupon, int wanted) {
        List<Integer> all = pointsOf(coupon, dearest());
        return all == null ? -1 : (int) all.stream().filter(p -> p >= wanted).count();
    }

    public int sure(int coupon, int wanted) {
        int cheapest = Math.min(Math.min(points[0], points[1]), Math.min(points[2], points[3]));
        List<Integer> all = pointsOf(coupon, cheapest);
        return all == null ? -1 : (int) all.stream().filter(p -> p >= wanted).count();
    }

    public int house(int what, int v) {
        int was = what == 0 ? hall : unit;
        if (what == 0 && v >= 0 && v <= 100) {
            hall = v;
            return was;
        }
        if (what == 1 && v >= 1 && v <= 1000) {
            unit = v;
            return was;
        }
        return -2;
    }

    /** A dividend: least, share, ceiling, carried, winners, coin, in the order in which divided() tells them. */
    public int dividend(int least, int share, int ceiling) {
        int n = s.dividends.size();
        long shares = share;
        for (long[] d : s.dividends) {
            shares += d[1];
        }
        boolean wrong = least < 0 || least > 90 || share < 0 || shares > 100 || ceiling < 1 || ceiling > 1000000;
        if (wrong || n == 4 || (n > 0 && s.dividends.get(n - 1)[0] <= least)) {
            return -1;
        }
        s.dividends.add(new long[] {least, share, ceiling, 0, 0, 0});
        return n;
    }

    public int repeal() {
        int n = s.dividends.size();
        s.hall += count(6);
        s.dividends.clear();
        return n;
    }

    public long settle() {
        if (count(8) != 14) {
            return -1;
        }
        before = s.copy();
        long stakes = count(3);
        long pool = stakes - stakes * hall / 100;
        long carriedAhead = count(6);
        long paid = 0;
        for (Bet b : s.bets) {
            b.prize = 0;
        }
        for (int i = 0; i < s.dividends.size(); i++) {
            long[] d = s.dividends.get(i);
            long under = i == 0 ? Long.MAX_VALUE : s.dividends.get(i - 1)[0];
            paid += pay(d, under, pool);
        }
        s.hall += stakes + carriedAhead - paid - count(6);
        s.paid += paid;
        s.settled = s.bets;
        s.bets = new ArrayList<>();
        s.scores = new int[14][];
        s.panels = new Integer[14];
        s.week++;
        return paid;
    }

    private long pay(long[] d, long under, long pool) {
        long all = d[3] + pool * d[1] / 100;
        long winners = 0;
        List<Bet> owners = new ArrayList<>();
        for (int c = 0; c < s.bets.size(); c++) {
            Bet b = s.bets.get(c);
            for (int p : pointsOf(c, 0)) {
                if (!b.isVoid && p >= d[0] && p < under) {
                    owners.add(b);
                    winners += b.price;
                }
            }
        }
        long coin = winners == 0 ? 0 : Math.min(all / winners / unit * unit, d[2]);
        for (Bet b : owners) {
            b.prize += coin * b.price;
            all -= coin * b.price;
        }
        d[3] = all;
        d[4] = winners;
        d[5] = coin;
        return coin * winners;
    }

    public long count(int what) {
        long stakes = 0;
        for (Bet b : s.bets) {
            stakes += b.isVoid ? 0 : (long) b.lines.size() * b.price;
        }
        long carried = 0;
        for (long[] d : s.dividends) {
            carried += d[3];
        }
        int decided = 0;
        for (int m = 0; m < 14; m++) {
            decided += outcome(m) == -1 ? 0 : 1;
        }
        long[] all = {s.week, s.bets.size(), s.dividends.size(), stakes, s.hall, s.paid, carried, tape.length(), decided};
        return what < 0 || what >= all.length ? -1 : all[what];
    }

    public long divided(int dividend, int what) {
        boolean none = dividend < 0 || dividend >= s.dividends.size() || what < 0 || what > 5;
        return none ? -1 : s.dividends.get(dividend)[what];
    }

    public long prize(int coupon, int part) {
        if (coupon < 0 || coupon >= s.settled.size()) {
            return -1;
        }
        Bet b = s.settled.get(coupon);
        if (part < -1 || part >= b.parts) {
            return -1;
        }
        long each = b.prize / b.parts;
        return part == -1 ? b.prize : part == 0 ? b.prize - each * (b.parts - 1) : each;
    }

    public int undo() {
        if (before == null) {
            return -1;
        }
        s = before;
        before = null;
        return (int) s.week;
    }

    private Bet bet(int coupon) {
        return coupon < 0 || coupon >= s.bets.size() ? null : s.bets.get(coupon);
    }

    private int dearest() {
        return Math.max(Math.max(points[0], points[1]), Math.max(points[2], points[3]));
    }

    private static int most(List<Integer> all) {
        return all == null ? -1 : all.stream().mapToInt(p -> p).max().orElse(-1);
    }

    /** The points of each line, matches without an outcome counted as given; null for no such coupon. */
    private List<Integer> pointsOf(int coupon, int open) {
        if (bet(coupon) == null) {
            return null;
        }
        int[] worth = new int[14];
        for (int m = 0; m < 14; m++) {
            worth[m] = outcome(m) == -1 ? open : points[outcome(m)];
        }
        List<Integer> all = new ArrayList<>();
        for (int number : bet(coupon).lines) {
            int sum = 0;
            for (int m = 0; m < 14; m++) {
                sum += (number & (1 << m)) != 0 ? worth[m] : 0;
            }
            all.add(sum);
        }
        return all;
    }

    /** Kind and place, zeros without; no recursion: open brackets are counted. */
    static int[] faultOf(String text) {
        int open = 0;
        int i = 0;
        boolean wantsPart = true;
        while (true) {
            int c = i < text.length() ? text.charAt(i) : -1;
            if (wantsPart && c == '(') {
                open++;
                if (open == 7) {
                    return new int[] {3, i};
                }
                i++;
            } else if (wantsPart) {
                int[] read = readPart(text, i);
                if (read.length == 2) {
                    return read;
                }
                i = read[0];
                wantsPart = false;
            } else if (c == -1 && open == 0) {
                return new int[] {0, 0};
            } else if (c == ')' && open > 0) {
                open--;
                i++;
            } else if (c != -1 && "+|&-".indexOf(c) >= 0) {
                wantsPart = true;
                i++;
            } else {
                return new int[] {1, i};
            }
        }
    }

    /** The place behind a part, alone; or a fault's kind and place. */
    private static int[] readPart(String text, int from) {
        int i = from;
        int k = -1;
        Matcher colon = K.matcher(text).region(i, text.length());
        if (colon.lookingAt()) {
            k = Integer.parseInt(colon.group(1));
            i = colon.end();
        }
        TreeSet<Integer> seen = new TreeSet<>();
        while (true) {
            Matcher number = M.matcher(text).region(i, text.length());
            if (!number.lookingAt()) {
                return new int[] {1, i};
            }
            int m = Integer.parseInt(number.group());
            if (m > 13 || !seen.add(m)) {
                return new int[] {2, i};
            }
            i = number.end();
            if (i == text.length() || text.charAt(i) != '.') {
                return k > seen.size() ? new int[] {2, from} : new int[] {i};
            }
            i++;
        }
    }

    /** The lines of a text without a fault: split at its last sign outside all brackets. */
    static TreeSet<Integer> linesOf(String text) {
        int at = lastOutside(text, "|&-");
        if (at < 0) {
            at = lastOutside(text, "+");
        }
        if (at < 0) {
            return text.charAt(0) == '(' ? linesOf(text.substring(1, text.length() - 1)) : choices(text);
        }
        TreeSet<Integer> first = linesOf(text.substring(0, at));
        TreeSet<Integer> second = linesOf(text.substring(at + 1));
        switch (text.charAt(at)) {
            case '|':
                first.addAll(second);
                return first;
            case '&':
                first.retainAll(second);
                return first;
            case '-':
                second.forEach(first::remove);
                return first;
            default:
                TreeSet<Integer> joined = new TreeSet<>();
                for (int a : first) {
                    for (int b : second) {
                        if ((a & b) == 0) {
                            joined.add(a | b);
                        }
                    }
                }
                return joined;
        }
    }

    private static int lastOutside(String text, String signs) {
        int open = 0;
        for (int i = text.length() - 1; i >= 0; i--) {
            char c = text.charAt(i);
            open += c == ')' ? 1 : c == '(' ? -1 : 0;
            if (open == 0 && signs.indexOf(c) >= 0) {
                return i;
            }
        }
        return -1;
    }

    private static TreeSet<Integer> choices(String text) {
        int colon = text.indexOf(':');
        int mask = 0;
        for (String m : text.substring(colon + 1).split("\\.")) {
            mask |= 1 << Integer.parseInt(m);
        }
        int k = colon < 0 ? Integer.bitCount(mask) : Integer.parseInt(text.substring(0, colon));
        TreeSet<Integer> lines = new TreeSet<>();
        for (int number = 0; number < 16384; number++) {
            if ((number & ~mask) == 0 && Integer.bitCount(number) == k) {
                lines.add(number);
            }
        }
        return lines;
    }
}
