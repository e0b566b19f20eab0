import java.util.ArrayList;
import java.util.List;

/**
 * Refused calls answer NONE, or false, and change nothing: of two halls made by the same calls one has
 * a refused call more, and then each answer of the one must be the other's.
 */
public final class RefusedTest {
    private static final int LEAST_INT = Integer.MIN_VALUE;
    private static final int MOST_INT = Integer.MAX_VALUE;
    private static final int THROWN = Check.THROWN;

    private interface Call {
        long on(PoolsHall x);
    }

    private static final class Refused {
        final String name;
        final long due;
        final Call call;

        Refused(String name, long due, Call call) {
            this.name = name;
            this.due = due;
            this.call = call;
        }
    }

    /** A state that a hall can be in, by the calls that bring it there. */
    private enum State {
        NEW, MIDWEEK, FULL, SETTLED, TAKEN_BACK
    }

    private RefusedTest() {
    }

    public static void main(String[] args) {
        for (State state : State.values()) {
            Check.begin("refused when " + state);
            PoolsHall probe = made(state);
            int coupons = (int) probe.count(1);
            int dividends = (int) probe.count(2);
            int bytes = (int) probe.count(7);
            List<Refused> all = new ArrayList<>();
            addMatches(all);
            addTape(all, bytes);
            addCoupons(all, coupons);
            addMoney(all, dividends);
            if (state == State.FULL) {
                addFull(all);
            } else {
                all.add(new Refused("settle()", -1, x -> x.settle()));
            }
            if (state == State.NEW || state == State.MIDWEEK || state == State.TAKEN_BACK) {
                all.add(new Refused("undo()", -1, x -> x.undo()));
            }
            for (Refused r : all) {
                dueNothingChanged(state, r);
            }
            refusedCoupons(state, coupons);
        }
        Check.finish();
    }

    private static PoolsHall made(State state) {
        PoolsHall x = new PoolsHall();
        if (state == State.NEW) {
            return x;
        }
        x.points(1, 7);
        x.house(0, 20);
        x.house(1, 2);
        x.dividend(11, 40, 50);
        x.dividend(2, 20, 3);
        playWeek(x);
        if (state == State.MIDWEEK) {
            x.panel(9, -1);
            putTape(x);
            return x;
        }
        Check.due("settle() pays", x.settle() > 0, true);
        if (state == State.FULL) {
            fill(x);
        } else if (state == State.TAKEN_BACK) {
            Check.due("undo()", x.undo(), 0);
            x.panel(13, -1);
        }
        if (state != State.FULL) {
            putTape(x);
        }
        return x;
    }

    private static void playWeek(PoolsHall x) {
        for (int m = 0; m < 14; m++) {
            x.panel(m, m % 4);
        }
        x.score(3, 2, 1);
        Check.bet(x, "2:0.1.2", 2, 3);
        Check.bet(x, "0|5.6", 5, 1);
        Check.bet(x, "13", 100, 2);
        x.tear(1, true);
    }

    private static void putTape(PoolsHall x) {
        Check.put(x, "4.5|6");
    }

    private static void fill(PoolsHall x) {
        x.dividend(1, 30, 9);
        x.dividend(0, 10, 9);
        for (int m = 0; m < 14; m++) {
            x.panel(m, (m + 1) % 4);
        }
        for (int n = 0; n < 20; n++) {
            Check.bet(x, n < 14 ? "" + n : "13." + (n - 14), n + 1, 2);
        }
        x.tear(19, true);
        for (int i = 0; i < 10; i++) {
            x.feed(0x302B302B, 0x302B302B, 0x302B302B, 0x302B302B, 0x302B302B);
        }
    }

    private static void addMatches(List<Refused> all) {
        int[][] scores = {{-1, 1, 1}, {14, 1, 1}, {0, -1, 1}, {0, 21, 1}, {3, 1, -1}, {3, 1, 21}, {LEAST_INT, 0, 0}, {0, MOST_INT, 0}};
        for (int[] s : scores) {
            all.add(new Refused("score(" + s[0] + ", " + s[1] + ", " + s[2] + ")", 0, x -> x.score(s[0], s[1], s[2]) ? 1 : 0));
        }
        int[][] panels = {{-1, 1}, {14, 1}, {3, -2}, {3, 4}, {0, -2}, {0, 4}, {MOST_INT, 1}, {3, LEAST_INT}};
        for (int[] p : panels) {
            all.add(new Refused("panel(" + p[0] + ", " + p[1] + ")", 0, x -> x.panel(p[0], p[1]) ? 1 : 0));
        }
        int[][] points = {{-1, 5}, {4, 5}, {0, -1}, {0, 10}, {3, -1}, {3, 10}, {LEAST_INT, 5}, {1, MOST_INT}};
        for (int[] p : points) {
            all.add(new Refused("points(" + p[0] + ", " + p[1] + ")", 0, x -> x.points(p[0], p[1]) ? 1 : 0));
        }
        all.add(new Refused("outcome(-1)", -1, x -> x.outcome(-1)));
        all.add(new Refused("outcome(14)", -1, x -> x.outcome(14)));
    }

    private static void addTape(List<Refused> all, int bytes) {
        for (int n : new int[] {-1, bytes + 1, LEAST_INT, MOST_INT}) {
            all.add(new Refused("end(" + n + ")", 0, x -> x.end(n) ? 1 : 0));
        }
        all.add(new Refused("fault(-1)", -1, x -> x.fault(-1)));
        all.add(new Refused("fault(2)", -1, x -> x.fault(2)));
    }

    private static void addCoupons(List<Refused> all, int coupons) {
        for (int c : new int[] {-1, coupons, coupons + 1, 20, LEAST_INT, MOST_INT}) {
            all.add(new Refused("tear(" + c + ", true)", 0, x -> x.tear(c, true) ? 1 : 0));
            all.add(new Refused("tear(" + c + ", false)", 0, x -> x.tear(c, false) ? 1 : 0));
            all.add(new Refused("told(" + c + ", 0)", THROWN, x -> Check.told(x, c, 0)));
            all.add(new Refused("line(" + c + ", 0)", -1, x -> x.line(c, 0)));
            all.add(new Refused("below(" + c + ", 1)", -1, x -> x.below(c, 1)));
            all.add(new Refused("unlike(" + c + ", 0)", -2, x -> x.unlike(c, 0)));
            all.add(new Refused("unlike(0, " + c + ")", -2, x -> x.unlike(0, c)));
            all.add(new Refused("win(" + c + ", 0)", -1, x -> x.win(c, 0)));
            all.add(new Refused("best(" + c + ")", -1, x -> x.best(c)));
            all.add(new Refused("still(" + c + ")", -1, x -> x.still(c)));
            all.add(new Refused("could(" + c + ", 0)", -1, x -> x.could(c, 0)));
            all.add(new Refused("sure(" + c + ", 0)", -1, x -> x.sure(c, 0)));
        }
        all.add(new Refused("told(0, -1)", THROWN, x -> Check.told(x, 0, -1)));
        all.add(new Refused("told(0, 7)", THROWN, x -> Check.told(x, 0, 7)));
        all.add(new Refused("line(0, -1)", -1, x -> x.line(0, -1)));
        all.add(new Refused("line(0, 16384)", -1, x -> x.line(0, 16384)));
        all.add(new Refused("below(0, -1)", -1, x -> x.below(0, -1)));
        all.add(new Refused("below(0, 16385)", -1, x -> x.below(0, 16385)));
    }

    private static void addMoney(List<Refused> all, int dividends) {
        int[][] houses = {{-1, 5}, {2, 5}, {0, -1}, {0, 101}, {1, 0}, {1, 1001}, {0, LEAST_INT}, {1, MOST_INT}};
        for (int[] h : houses) {
            all.add(new Refused("house(" + h[0] + ", " + h[1] + ")", -2, x -> x.house(h[0], h[1])));
        }
        int[][] wrong = {{-1, 1, 1}, {91, 1, 1}, {1, -1, 1}, {1, 101, 1}, {1, 1, 0}, {1, 1, 1000001}, {LEAST_INT, 1, 1}, {1, MOST_INT, 1}};
        for (int[] d : wrong) {
            all.add(new Refused("dividend(" + d[0] + ", " + d[1] + ", " + d[2] + ")", -1, x -> x.dividend(d[0], d[1], d[2])));
        }
        if (dividends == 2) {
            all.add(new Refused("dividend(2, 1, 1): not less", -1, x -> x.dividend(2, 1, 1)));
            all.add(new Refused("dividend(3, 1, 1): more", -1, x -> x.dividend(3, 1, 1)));
            all.add(new Refused("dividend(1, 41, 1): too much together", -1, x -> x.dividend(1, 41, 1)));
        }
        for (int d : new int[] {-1, dividends, 4, LEAST_INT, MOST_INT}) {
            all.add(new Refused("divided(" + d + ", 0)", -1, x -> x.divided(d, 0)));
        }
        all.add(new Refused("divided(0, -1)", -1, x -> x.divided(0, -1)));
        all.add(new Refused("divided(0, 6)", -1, x -> x.divided(0, 6)));
        all.add(new Refused("count(-1)", -1, x -> x.count(-1)));
        all.add(new Refused("count(9)", -1, x -> x.count(9)));
        for (int c : new int[] {-1, 3, 20, LEAST_INT, MOST_INT}) {
            all.add(new Refused("prize(" + c + ", -1)", -1, x -> x.prize(c, -1)));
        }
        all.add(new Refused("prize(0, 3)", -1, x -> x.prize(0, 3)));
        all.add(new Refused("prize(0, -2)", -1, x -> x.prize(0, -2)));
    }

    private static void addFull(List<Refused> all) {
        all.add(new Refused("feed() on a full tape", -1, x -> x.feed(-1, -1, -1, -1, -1)));
        all.add(new Refused("a fifth dividend", -1, x -> x.dividend(0, 0, 1)));
    }

    private static void dueNothingChanged(State state, Refused r) {
        PoolsHall x = made(state);
        PoolsHall y = made(state);
        Check.due(r.name, r.call.on(x), r.due);
        dueSame(r.name, x, y, true);
    }

    /** A refused coupon() leaves THE TAPE empty, and its FAULT; nothing else is another. */
    private static void refusedCoupons(State state, int coupons) {
        int[][] others = {{0, 1}, {101, 1}, {1, 0}, {1, 10}, {LEAST_INT, 1}, {1, MOST_INT}};
        for (int[] o : others) {
            PoolsHall x = made(state);
            PoolsHall y = made(state);
            String name = "coupon(" + o[0] + ", " + o[1] + ")";
            Check.due(name, x.coupon(o[0], o[1]), -1);
            y.end(0);
            dueSame(name, x, y, true);
        }
        PoolsHall x = made(state);
        PoolsHall y = made(state);
        if (coupons == 20) {
            Check.due("coupon() with 20", x.coupon(1, 1), -1);
        } else {
            Check.put(x, "2:0.1|14");
            Check.due("coupon() with a fault", x.coupon(1, 1), -1);
            Check.due("fault(0)", x.fault(0), 2);
            Check.due("fault(1)", x.fault(1), 6);
        }
        y.end(0);
        dueSame("a refused coupon()", x, y, coupons == 20);
    }

    private static void dueSame(String behind, PoolsHall x, PoolsHall y, boolean faultToo) {
        List<Long> of = new ArrayList<>();
        List<Long> to = new ArrayList<>();
        askAll(x, of, faultToo);
        askAll(y, to, faultToo);
        int differing = 0;
        for (int i = 0; i < of.size(); i++) {
            differing += of.get(i).equals(to.get(i)) ? 0 : 1;
        }
        Check.due("answers that are others behind " + behind, differing, 0);
        Check.due("answers", of.size(), to.size());
    }

    /** Asks a hall for all that it tells, then by calls that change it for what it only then shows. */
    private static void askAll(PoolsHall x, List<Long> answers, boolean faultToo) {
        askMoney(x, answers);
        askCoupons(x, answers);
        for (int m = 0; m < 14; m++) {
            answers.add((long) x.outcome(m));
        }
        for (int what = 0; what < 2 && faultToo; what++) {
            answers.add((long) x.fault(what));
        }
        answers.add((long) x.undo());
        askMoney(x, answers);
        answers.add((long) x.house(0, 30));
        answers.add((long) x.house(1, 1));
        answers.add((long) x.coupon(1, 1));
        answers.add((long) x.fault(0));
        answers.add((long) x.fault(1));
        answers.add(Check.told(x, (int) x.count(1) - 1, 5));
        int coupon = Check.bet(x, "0");
        for (int o = 0; o < 4; o++) {
            x.panel(0, o);
            answers.add((long) x.best(coupon));
        }
    }

    private static void askMoney(PoolsHall x, List<Long> answers) {
        for (int what = 0; what <= 8; what++) {
            answers.add(x.count(what));
        }
        for (int i = 0; i < 24; i++) {
            answers.add(x.divided(i / 6, i % 6));
        }
        for (int c = 0; c < 5; c++) {
            answers.add(x.prize(c, -1));
            answers.add(x.prize(c, 1));
        }
    }

    private static void askCoupons(PoolsHall x, List<Long> answers) {
        for (int c = 0; c < x.count(1); c++) {
            for (int what : new int[] {1, 2, 4, 5}) {
                answers.add(Check.told(x, c, what));
            }
            answers.add((long) x.line(c, 0));
            answers.add((long) x.best(c));
            answers.add((long) x.still(c));
        }
    }
}
