/** The edges of the promises 1 to 20: nothing there yet, the last that is taken, all places taken, the first that is refused. */
public final class CallEdgesTest {
    private static final String ALL = Check.ALL;
    private static final String EVERY_LINE = everyLine();
    private static final int THROWN = Check.THROWN;

    private CallEdgesTest() {
    }

    public static void main(String[] args) {
        nothingYet();
        everyScore();
        scoreAheadOfPanel();
        everyMatch();
        everyPoints();
        feedEdges();
        bytesInOrder();
        endEdges();
        twentyCoupons();
        callsOfTheLastCoupon();
        couponNumbers();
        priceAndParts();
        latestFault();
        tearTwice();
        toldOfLines();
        lineEdges();
        belowEdges();
        unlikeEdges();
        winEdges();
        winWithoutOutcomes();
        bestEdges();
        bestByOnePoint();
        stillEdges();
        couldAndSureEdges();
        everyPointsOfEveryLine();
        houseEdges();
        Check.finish();
    }

    /** A text of all 16384 lines. */
    private static String everyLine() {
        StringBuilder text = new StringBuilder();
        for (int m = 0; m < 14; m++) {
            text.append(m == 0 ? "" : "+").append("(0:0|").append(m).append(")");
        }
        return text.toString();
    }

    private static void due(String call, long got, long want) {
        Check.due(call, got, want);
    }

    private static void due(String call, boolean got, boolean want) {
        Check.due(call, got, want);
    }

    private static void nothingYet() {
        Check.begin("promise 1: no COUPONS, DIVIDENDS; week 0, empty TAPE");
        PoolsHall x = new PoolsHall();
        due("tear(0, true)", x.tear(0, true), false);
        due("told(0, 0)", Check.told(x, 0, 0), THROWN);
        due("line(0, 0)", x.line(0, 0), -1);
        due("below(0, 0)", x.below(0, 0), -1);
        due("unlike(0, 0)", x.unlike(0, 0), -2);
        due("win(0, 0)", x.win(0, 0), -1);
        due("best(0)", x.best(0), -1);
        due("still(0)", x.still(0), -1);
        due("could(0, 0)", x.could(0, 0), -1);
        due("sure(0, 0)", x.sure(0, 0), -1);
        due("divided(0, 3)", x.divided(0, 3), -1);
        due("prize(0, 0)", x.prize(0, 0), -1);
        due("repeal()", x.repeal(), 0);
        due("settle()", x.settle(), -1);
        due("undo()", x.undo(), -1);
        due("end(1)", x.end(1), false);
        due("end(0)", x.end(0), true);
        due("coupon() of an empty tape", x.coupon(1, 1), -1);
        due("fault(0)", x.fault(0), 1);
        due("fault(1)", x.fault(1), 0);
        for (int what = 0; what <= 8; what++) {
            due("count(" + what + ") behind all that", x.count(what), 0);
        }
    }

    private static void everyScore() {
        Check.begin("promise 2, term 1: SCORE (home, away, 0 .. 20 each)");
        for (int home = -2; home <= 22; home++) {
            PoolsHall x = new PoolsHall();
            for (int away = -2; away <= 22; away++) {
                boolean taken = home >= 0 && home <= 20 && away >= 0 && away <= 20;
                int outcome = home > away ? 0 : home < away ? 1 : home == 0 ? 2 : 3;
                int match = (away + 2) % 14;
                x.panel(match, -1);
                due("score(" + match + ", " + home + ", " + away + ")", x.score(match, home, away), taken);
                due("outcome(" + match + ")", x.outcome(match), taken ? outcome : -1);
            }
        }
    }

    private static void scoreAheadOfPanel() {
        Check.begin("promises 2 to 4, term 1: OUTCOME is that of the SCORE, if there is one, else the PANEL's");
        int[][] goals = {{1, 0}, {0, 1}, {0, 0}, {1, 1}};
        for (int panel = -1; panel < 4; panel++) {
            for (int outcome = 0; outcome < 4; outcome++) {
                PoolsHall x = new PoolsHall();
                x.panel(7, panel);
                due("outcome(7) by the panel", x.outcome(7), panel);
                due("count(8)", x.count(8), panel == -1 ? 0 : 1);
                x.score(7, goals[outcome][0], goals[outcome][1]);
                due("outcome(7) by the score", x.outcome(7), outcome);
                due("count(8)", x.count(8), 1);
                due("panel(7, " + panel + ")", x.panel(7, panel), true);
                due("outcome(7) without the score", x.outcome(7), panel);
            }
        }
    }

    private static void everyMatch() {
        Check.begin("promises 2 to 4, term 1: MATCHES 0 .. 13");
        for (int match = -3; match <= 16; match++) {
            boolean is = match >= 0 && match <= 13;
            PoolsHall x = new PoolsHall();
            due("outcome(" + match + ") at first", x.outcome(match), -1);
            due("score(" + match + ", 0, 0)", x.score(match, 0, 0), is);
            due("outcome(" + match + ")", x.outcome(match), is ? 2 : -1);
            due("count(8)", x.count(8), is ? 1 : 0);
            due("panel(" + match + ", 3)", x.panel(match, 3), is);
            due("outcome(" + match + ")", x.outcome(match), is ? 3 : -1);
            due("panel(" + match + ", -1)", x.panel(match, -1), is);
            due("count(8)", x.count(8), 0);
            for (int other = 0; other < 14; other++) {
                due("outcome(" + other + ")", x.outcome(other), -1);
            }
        }
    }

    private static void everyPoints() {
        Check.begin("promise 5: POINTS of an OUTCOME (0 .. 9)");
        for (int outcome = -1; outcome <= 4; outcome++) {
            PoolsHall x = new PoolsHall();
            int[] worth = {2, 3, 4, 6};
            for (int o = 0; o < 4; o++) {
                x.panel(o, o);
                Check.bet(x, "" + o);
            }
            for (int v = -2; v <= 11; v++) {
                boolean taken = outcome >= 0 && outcome <= 3 && v >= 0 && v <= 9;
                due("points(" + outcome + ", " + v + ")", x.points(outcome, v), taken);
                if (taken) {
                    worth[outcome] = v;
                }
                for (int o = 0; o < 4; o++) {
                    due("best(" + o + ")", x.best(o), worth[o]);
                }
            }
        }
    }

    private static void feedEdges() {
        Check.begin("promise 6: NONE, and none come, if there would be more than 200");
        for (int n = 178; n <= 200; n++) {
            PoolsHall x = new PoolsHall();
            for (int i = 0; i < 10; i++) {
                x.feed(0x302B302B, 0x302B302B, 0x302B302B, 0x302B302B, 0x302B302B);
            }
            due("end(" + n + ")", x.end(n), true);
            due("feed() behind " + n, x.feed(-1, -1, -1, -1, -1), n <= 180 ? n + 20 : -1);
            due("count(7)", x.count(7), n <= 180 ? n + 20 : n);
            // The first byte that came can't stand there; without one a text of "0+0+" ends, well or not.
            due("coupon()", x.coupon(1, 1), n > 180 && n % 2 == 1 ? 0 : -1);
            due("fault(1)", x.fault(1), n > 180 && n % 2 == 1 ? 0 : n);
        }
    }

    private static void bytesInOrder() {
        Check.begin("promise 6: twenty bytes, of each number the highest first");
        for (int place = 0; place < 20; place++) {
            StringBuilder text = new StringBuilder("0+0+0+0+0+0+0+0+0+00");
            text.setCharAt(place, (char) 255);
            PoolsHall x = new PoolsHall();
            int[] n = Check.numbersOf(text.toString(), 0);
            due("feed()", x.feed(n[0], n[1], n[2], n[3], n[4]), 20);
            due("coupon()", x.coupon(1, 1), -1);
            due("fault(0)", x.fault(0), 1);
            due("fault(1)", x.fault(1), place);
        }
    }

    private static void endEdges() {
        Check.begin("promise 7: false if it has not so many, or n is below 0");
        for (int n = -2; n <= 42; n++) {
            PoolsHall x = new PoolsHall();
            x.feed(0, 0, 0, 0, 0);
            x.feed(0, 0, 0, 0, 0);
            due("end(" + n + ")", x.end(n), n >= 0 && n <= 40);
            due("count(7)", x.count(7), n >= 0 && n <= 40 ? n : 40);
        }
        PoolsHall x = new PoolsHall();
        for (int i = 0; i < 10; i++) {
            x.feed(0, 0, 0, 0, 0);
        }
        due("end(201) of 200", x.end(201), false);
        due("end(200) of 200", x.end(200), true);
        due("end(199)", x.end(199), true);
        due("end(200) of 199", x.end(200), false);
        due("end(0)", x.end(0), true);
        due("end(0) again", x.end(0), true);
        due("count(7)", x.count(7), 0);
    }

    /** A hall of twenty coupons: number n has the one line of the match n, or of 13 and the match n - 13. */
    private static PoolsHall full() {
        PoolsHall x = new PoolsHall();
        for (int n = 0; n < 20; n++) {
            due("coupon " + n, Check.bet(x, n < 14 ? "" + n : "13." + (n - 14), n + 1, n % 9 + 1), n);
        }
        return x;
    }

    private static void twentyCoupons() {
        Check.begin("promise 8: at most 20");
        PoolsHall x = full();
        due("count(1)", x.count(1), 20);
        Check.put(x, "0");
        due("coupon 20", x.coupon(1, 1), -1);
        due("count(7)", x.count(7), 0);
        due("fault(0)", x.fault(0), 0);
        due("fault(1)", x.fault(1), 0);
        due("count(1)", x.count(1), 20);
        due("count(3)", x.count(3), 210);
        x.tear(3, true);
        due("a void one keeps its place", Check.bet(x, "0"), -1);
        due("count(1)", x.count(1), 20);
    }

    private static void callsOfTheLastCoupon() {
        Check.begin("promises 10 to 19: the last COUPON of 20, and none behind it");
        PoolsHall x = full();
        x.panel(5, 1);
        x.panel(13, 3);
        long[] told = {1, 20, 0, 20, 2, 8192 + 32, 8192 + 32};
        for (int what = 0; what < 7; what++) {
            due("told(19, " + what + ")", Check.told(x, 19, what), told[what]);
            due("told(20, " + what + ")", Check.told(x, 20, what), THROWN);
        }
        due("line(19, 0)", x.line(19, 0), 8224);
        due("line(20, 0)", x.line(20, 0), -1);
        due("below(19, 16384)", x.below(19, 16384), 1);
        due("below(20, 16384)", x.below(20, 16384), -1);
        due("unlike(19, 19)", x.unlike(19, 19), -1);
        due("unlike(19, 0)", x.unlike(19, 0), 1);
        due("unlike(19, 20)", x.unlike(19, 20), -2);
        due("unlike(20, 19)", x.unlike(20, 19), -2);
        due("win(19, 9)", x.win(19, 9), 1);
        due("win(20, 9)", x.win(20, 9), -1);
        due("best(19)", x.best(19), 9);
        due("best(20)", x.best(20), -1);
        due("still(19)", x.still(19), 9);
        due("still(20)", x.still(20), -1);
        due("could(19, 9)", x.could(19, 9), 1);
        due("could(20, 9)", x.could(20, 9), -1);
        due("sure(19, 9)", x.sure(19, 9), 1);
        due("sure(20, 9)", x.sure(20, 9), -1);
        due("tear(20, true)", x.tear(20, true), false);
        due("tear(19, true)", x.tear(19, true), true);
        due("told(19, 2)", Check.told(x, 19, 2), 1);
        due("told(18, 2)", Check.told(x, 18, 2), 0);
        due("count(3)", x.count(3), 190);
    }

    private static void couponNumbers() {
        Check.begin("promise 8: its number; a refused one takes none");
        PoolsHall x = new PoolsHall();
        due("refused: a price", Check.bet(x, "0", 0, 1), -1);
        due("refused: a fault", Check.bet(x, "0."), -1);
        due("the first one", Check.bet(x, "0"), 0);
        due("refused: parts", Check.bet(x, "1", 1, 10), -1);
        due("the second one", Check.bet(x, "1"), 1);
        due("line(1, 0)", x.line(1, 0), 2);
        due("two that are the same", Check.bet(x, "1"), 2);
        Check.panelAll(x, 0);
        due("settle()", x.settle(), 0);
        due("the first one of the next week", Check.bet(x, "5"), 0);
        due("line(0, 0)", x.line(0, 0), 32);
        due("line(1, 0)", x.line(1, 0), -1);
    }

    private static void priceAndParts() {
        Check.begin("promise 8, term 2: a PRICE a line (1 .. 100), PARTS 1 .. 9");
        for (int price : new int[] {-1, 0, 1, 2, 99, 100, 101}) {
            for (int parts : new int[] {-1, 0, 1, 2, 8, 9, 10}) {
                boolean taken = price >= 1 && price <= 100 && parts >= 1 && parts <= 9;
                PoolsHall x = new PoolsHall();
                Check.put(x, "1:0.1");
                due("coupon(" + price + ", " + parts + ")", x.coupon(price, parts), taken ? 0 : -1);
                due("count(1)", x.count(1), taken ? 1 : 0);
                due("count(7)", x.count(7), 0);
                due("fault(0)", x.fault(0), 0);
                due("told(0, 1)", Check.told(x, 0, 1), taken ? 2 * price : THROWN);
                due("told(0, 3)", Check.told(x, 0, 3), taken ? price : THROWN);
                due("told(0, 4)", Check.told(x, 0, 4), taken ? parts : THROWN);
            }
        }
    }

    private static void latestFault() {
        Check.begin("promise 9: of the latest coupon(), 0 without");
        PoolsHall x = new PoolsHall();
        due("fault(0) ahead of any", x.fault(0), 0);
        due("fault(1) ahead of any", x.fault(1), 0);
        int[][] others = {{0, 1}, {101, 1}, {1, 0}, {1, 10}};
        for (int[] o : others) {
            Check.bet(x, "0|14");
            due("fault(0)", x.fault(0), 2);
            due("fault(1)", x.fault(1), 2);
            Check.bet(x, "0|14", o[0], o[1]);
            due("fault(0): the others are asked ahead", x.fault(0), 0);
            due("fault(1): the others are asked ahead", x.fault(1), 0);
        }
        Check.bet(x, "(((((((");
        due("fault(0)", x.fault(0), 3);
        due("fault(1)", x.fault(1), 6);
        x.feed(0, 0, 0, 0, 0);
        x.end(0);
        due("fault(0): other calls leave it", x.fault(0), 3);
        Check.bet(x, "0");
        due("fault(0) of one without", x.fault(0), 0);
        due("fault(1) of one without", x.fault(1), 0);
        due("fault(-1)", x.fault(-1), -1);
        due("fault(2)", x.fault(2), -1);
    }

    private static void tearTwice() {
        Check.begin("promise 10: VOID, or not");
        PoolsHall x = new PoolsHall();
        Check.bet(x, "0|1|2", 7, 1);
        due("told(0, 2) at first", Check.told(x, 0, 2), 0);
        boolean[] steps = {false, true, true, false, false, true};
        for (boolean is : steps) {
            due("tear(0, " + is + ")", x.tear(0, is), true);
            due("told(0, 2)", Check.told(x, 0, 2), is ? 1 : 0);
            due("count(3)", x.count(3), is ? 0 : 21);
            due("count(1)", x.count(1), 1);
        }
        due("tear(1, true)", x.tear(1, true), false);
        due("tear(-1, true)", x.tear(-1, true), false);
    }

    private static void toldOfLines() {
        Check.begin("promise 11: MATCHES in some line, in all lines (all 14 without lines)");
        String[] plans = {"0-0", "0:0", EVERY_LINE, ALL, "0:0|" + ALL, "13:" + ALL};
        long[][] due = {{0, 0, 16383}, {1, 0, 0}, {16384, 16383, 0}, {1, 16383, 16383}, {2, 16383, 0}, {14, 16383, 0}};
        PoolsHall x = new PoolsHall();
        for (int c = 0; c < plans.length; c++) {
            due("coupon", Check.bet(x, plans[c], 100, 1), c);
            due("told(" + c + ", 0)", Check.told(x, c, 0), due[c][0]);
            due("told(" + c + ", 1)", Check.told(x, c, 1), 100 * due[c][0]);
            due("told(" + c + ", 5)", Check.told(x, c, 5), due[c][1]);
            due("told(" + c + ", 6)", Check.told(x, c, 6), due[c][2]);
        }
        for (int m = 0; m < 14; m++) {
            PoolsHall y = new PoolsHall();
            Check.bet(y, "1:" + ALL + "+" + m);
            due("lines with " + m, Check.told(y, 0, 0), 13);
            due("told(0, 5)", Check.told(y, 0, 5), 16383);
            due("told(0, 6)", Check.told(y, 0, 6), 1 << m);
            Check.bet(y, "0:0|" + m);
            due("told(1, 5)", Check.told(y, 1, 5), 1 << m);
            due("told(1, 6)", Check.told(y, 1, 6), 0);
        }
    }

    private static void lineEdges() {
        Check.begin("promise 12: NONE: no such line");
        PoolsHall x = new PoolsHall();
        Check.bet(x, "0-0");
        Check.bet(x, "0:0");
        Check.bet(x, EVERY_LINE);
        Check.bet(x, EVERY_LINE + "-(0:0)-(" + ALL + ")");
        due("line(0, 0) without lines", x.line(0, 0), -1);
        due("line(1, -1)", x.line(1, -1), -1);
        due("line(1, 0)", x.line(1, 0), 0);
        due("line(1, 1)", x.line(1, 1), -1);
        for (int i : new int[] {0, 1, 63, 64, 65, 127, 128, 8191, 8192, 16319, 16320, 16382, 16383}) {
            due("line(2, " + i + ")", x.line(2, i), i);
            due("line(3, " + i + ")", x.line(3, i), i < 16382 ? i + 1 : -1);
        }
        due("line(2, 16384)", x.line(2, 16384), -1);
        due("line(2, -1)", x.line(2, -1), -1);
    }

    private static void belowEdges() {
        Check.begin("promise 13: a NUMBER below one (0 .. 16384)");
        PoolsHall x = new PoolsHall();
        Check.bet(x, "0-0");
        Check.bet(x, "0:0");
        Check.bet(x, EVERY_LINE);
        Check.bet(x, ALL);
        for (int n : new int[] {0, 1, 63, 64, 65, 127, 128, 129, 8191, 8192, 8193, 16319, 16320, 16321, 16382, 16383, 16384}) {
            due("below(0, " + n + ")", x.below(0, n), 0);
            due("below(1, " + n + ")", x.below(1, n), n > 0 ? 1 : 0);
            due("below(2, " + n + ")", x.below(2, n), n);
            due("below(3, " + n + ")", x.below(3, n), n > 16383 ? 1 : 0);
        }
        for (int c = 0; c < 4; c++) {
            due("below(" + c + ", -1)", x.below(c, -1), -1);
            due("below(" + c + ", 16385)", x.below(c, 16385), -1);
        }
    }

    private static void unlikeEdges() {
        Check.begin("promise 14: the least NUMBER of a line that just one of them has");
        PoolsHall x = new PoolsHall();
        String[] plans = {"0-0", "0:0", ALL, EVERY_LINE, EVERY_LINE + "-(" + ALL + ")", EVERY_LINE + "-(0:0)", "5-5"};
        for (int c = 0; c < plans.length; c++) {
            due("coupon", Check.bet(x, plans[c]), c);
            due("unlike(" + c + ", " + c + ")", x.unlike(c, c), -1);
        }
        int[][] due = {{0, 1, 0}, {0, 2, 16383}, {0, 3, 0}, {0, 4, 0}, {0, 5, 1}, {0, 6, -1}, {1, 2, 0}, {1, 3, 1},
            {2, 3, 0}, {3, 4, 16383}, {3, 5, 0}, {4, 5, 0}};
        for (int[] d : due) {
            due("unlike(" + d[0] + ", " + d[1] + ")", x.unlike(d[0], d[1]), d[2]);
            due("unlike(" + d[1] + ", " + d[0] + ")", x.unlike(d[1], d[0]), d[2]);
        }
        due("unlike(6, 7)", x.unlike(6, 7), -2);
        due("unlike(7, 6)", x.unlike(7, 6), -2);
        due("unlike(-1, 0)", x.unlike(-1, 0), -2);
        due("unlike(0, -1)", x.unlike(0, -1), -2);
        for (int m = 0; m < 14; m++) {
            PoolsHall y = new PoolsHall();
            Check.bet(y, EVERY_LINE);
            Check.bet(y, EVERY_LINE + "-" + m);
            due("unlike(0, 1) but for " + m, y.unlike(0, 1), 1 << m);
        }
    }

    private static void winEdges() {
        Check.begin("promise 15: just so many POINTS");
        PoolsHall x = new PoolsHall();
        Check.bet(x, EVERY_LINE);
        Check.bet(x, "0-0");
        Check.panelAll(x, 3);
        x.points(3, 9);
        int[] sizes = {1, 14, 91, 364, 1001, 2002, 3003, 3432, 3003, 2002, 1001, 364, 91, 14, 1};
        for (int p = -2; p <= 135; p++) {
            boolean is = p >= 0 && p % 9 == 0 && p <= 126;
            due("win(0, " + p + ")", x.win(0, p), is ? sizes[p / 9] : 0);
        }
        due("win(1, 0) without lines", x.win(1, 0), 0);
        x.points(3, 0);
        due("win(0, 0) where all is worth nothing", x.win(0, 0), 16384);
        due("win(0, 1)", x.win(0, 1), 0);
        due("win(0, -1)", x.win(0, -1), 0);
    }

    private static void winWithoutOutcomes() {
        Check.begin("promise 15, term 1: the sum of those of its MATCHES that have an OUTCOME");
        PoolsHall x = new PoolsHall();
        Check.bet(x, EVERY_LINE);
        due("win(0, 0) without outcomes", x.win(0, 0), 16384);
        due("best(0) without outcomes", x.best(0), 0);
        x.score(0, 1, 0);
        x.panel(13, 3);
        due("win(0, 0)", x.win(0, 0), 4096);
        due("win(0, 2)", x.win(0, 2), 4096);
        due("win(0, 6)", x.win(0, 6), 4096);
        due("win(0, 8)", x.win(0, 8), 4096);
        Check.bet(x, "0.5|0.6.7|0.12");
        due("win(1, 2): those without an outcome have none", x.win(1, 2), 3);
        x.panel(0, -1);
        due("win(1, 0) without it again", x.win(1, 0), 3);
    }

    private static void bestEdges() {
        Check.begin("promise 16: NONE: no line");
        PoolsHall x = new PoolsHall();
        Check.bet(x, "0-0");
        Check.bet(x, "0:0");
        Check.bet(x, ALL);
        Check.bet(x, EVERY_LINE);
        due("best(0)", x.best(0), -1);
        due("best(1)", x.best(1), 0);
        due("best(2) without outcomes", x.best(2), 0);
        for (int m = 0; m < 14; m++) {
            x.panel(m, 3);
            due("best(2)", x.best(2), 6 * (m + 1));
            due("best(3)", x.best(3), 6 * (m + 1));
        }
        x.points(3, 9);
        due("best(0)", x.best(0), -1);
        due("best(1)", x.best(1), 0);
        due("best(2)", x.best(2), 126);
        due("best(3)", x.best(3), 126);
    }

    private static void bestByOnePoint() {
        Check.begin("promise 16: the greatest, be it by one point, and by any match");
        for (int more = 0; more < 6; more++) {
            PoolsHall x = new PoolsHall();
            x.points(0, 1);
            for (int m = 0; m < 6; m++) {
                x.panel(m, 0);
            }
            x.panel(6, 3);
            x.panel(7, 3);
            String less = "0.1.2.3.4.5".replace("." + more, "").replace(more + ".", "");
            Check.bet(x, "6." + less + "|7.0.1.2.3.4.5");
            Check.bet(x, "7." + less + "|6.0.1.2.3.4.5");
            due("best(0)", x.best(0), 12);
            due("best(1)", x.best(1), 12);
        }
    }

    private static void stillEdges() {
        Check.begin("promise 17: MATCHES without an OUTCOME with the most of all four");
        PoolsHall x = new PoolsHall();
        Check.bet(x, "0-0");
        Check.bet(x, "0:0");
        Check.bet(x, ALL);
        due("still(0)", x.still(0), -1);
        due("still(1)", x.still(1), 0);
        due("still(2) without outcomes", x.still(2), 84);
        for (int o = 0; o < 4; o++) {
            x.points(o, 9);
            due("still(2) with the most at " + o, x.still(2), 126);
            x.points(o, 0);
        }
        due("still(2) with none", x.still(2), 0);
        x.points(0, 1);
        due("still(2) with one", x.still(2), 14);
        Check.panelAll(x, 3);
        due("still(2) with all outcomes is best()", x.still(2), 0);
        x.panel(13, -1);
        due("still(2) with all but one", x.still(2), 1);
    }

    private static void couldAndSureEdges() {
        Check.begin("promises 18 and 19: so many or more");
        PoolsHall x = new PoolsHall();
        Check.bet(x, ALL);
        Check.bet(x, "0-0");
        due("could(0, 84)", x.could(0, 84), 1);
        due("could(0, 85)", x.could(0, 85), 0);
        due("sure(0, 28)", x.sure(0, 28), 1);
        due("sure(0, 29)", x.sure(0, 29), 0);
        for (int o = 0; o < 4; o++) {
            x.points(o, 9);
        }
        due("could(0, 126)", x.could(0, 126), 1);
        due("could(0, 127)", x.could(0, 127), 0);
        due("sure(0, 126)", x.sure(0, 126), 1);
        due("sure(0, 127)", x.sure(0, 127), 0);
        for (int o = 0; o < 4; o++) {
            x.points(o, 8);
            due("sure(0, 112) with the least at " + o, x.sure(0, 112), 1);
            due("sure(0, 113) with the least at " + o, x.sure(0, 113), 0);
            due("could(0, 126) with the others", x.could(0, 126), 1);
            x.points(o, 9);
        }
        Check.panelAll(x, 2);
        x.points(2, 5);
        due("could(0, 70) with all outcomes", x.could(0, 70), 1);
        due("could(0, 71) with all outcomes", x.could(0, 71), 0);
        due("sure(0, 70) with all outcomes", x.sure(0, 70), 1);
        due("sure(0, 71) with all outcomes", x.sure(0, 71), 0);
        for (int p : new int[] {-1, 0, 1}) {
            due("could(1, " + p + ") without lines", x.could(1, p), 0);
            due("sure(1, " + p + ") without lines", x.sure(1, p), 0);
        }
    }

    private static void everyPointsOfEveryLine() {
        Check.begin("promises 18 and 19: every number of POINTS");
        int[] sizes = {1, 14, 91, 364, 1001, 2002, 3003, 3432, 3003, 2002, 1001, 364, 91, 14, 1};
        for (int worth = 1; worth <= 9; worth++) {
            PoolsHall x = new PoolsHall();
            Check.bet(x, EVERY_LINE);
            for (int o = 0; o < 4; o++) {
                x.points(o, worth);
            }
            for (int p = -1; p <= 14 * worth + 1; p++) {
                int due = 0;
                for (int k = 0; k <= 14; k++) {
                    due += k * worth >= p ? sizes[k] : 0;
                }
                due("could(0, " + p + ")", x.could(0, p), due);
                due("sure(0, " + p + ")", x.sure(0, p), due);
            }
        }
    }

    private static void houseEdges() {
        Check.begin("promise 20, term 2: HALL (0 .. 100), UNIT (1 .. 1000)");
        PoolsHall x = new PoolsHall();
        int[] was = {30, 1};
        int[][] calls = {{0, -1}, {0, 0}, {0, 1}, {0, 99}, {0, 100}, {0, 101}, {1, 0}, {1, 1}, {1, 2}, {1, 999}, {1, 1000}, {1, 1001}};
        for (int[] c : calls) {
            boolean taken = c[0] == 0 ? c[1] >= 0 && c[1] <= 100 : c[1] >= 1 && c[1] <= 1000;
            due("house(" + c[0] + ", " + c[1] + ")", x.house(c[0], c[1]), taken ? was[c[0]] : -2);
            was[c[0]] = taken ? c[1] : was[c[0]];
        }
        due("house(-1, 1)", x.house(-1, 1), -2);
        due("house(2, 1)", x.house(2, 1), -2);
        due("HALL behind all that", x.house(0, 30), 100);
        due("UNIT behind all that", x.house(1, 1), 1000);
    }
}
