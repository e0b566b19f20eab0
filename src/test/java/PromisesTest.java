/** Every promise of the document by itself: ordinary calls, the edges it names, and what it refuses. */
public final class PromisesTest {
    private static final int LEAST_INT = Integer.MIN_VALUE;
    private static final int MOST_INT = Integer.MAX_VALUE;
    private static final String ALL = Check.ALL;
    private static final int THROWN = Check.THROWN;

    private PromisesTest() {
    }

    public static void main(String[] args) {
        newObject();
        score();
        panel();
        outcome();
        points();
        feed();
        end();
        coupon();
        couponRefused();
        plans();
        plansThatNest();
        fault();
        faultsOfTexts();
        tear();
        told();
        line();
        below();
        unlike();
        win();
        best();
        still();
        could();
        sure();
        house();
        dividend();
        repeal();
        settle();
        settleCutsDown();
        settleBands();
        settleCarries();
        count();
        divided();
        prize();
        undo();
        undoKeeps();
        Check.finish();
    }

    private static void due(String call, long got, long want) {
        Check.due(call, got, want);
    }

    private static void due(String call, boolean got, boolean want) {
        Check.due(call, got, want);
    }

    private static void newObject() {
        Check.begin("promise 1");
        PoolsHall x = new PoolsHall();
        for (int what = 0; what <= 8; what++) {
            due("count(" + what + ")", x.count(what), 0);
        }
        for (int m = 0; m < 14; m++) {
            due("outcome(" + m + ")", x.outcome(m), -1);
        }
        due("fault(0)", x.fault(0), 0);
        due("fault(1)", x.fault(1), 0);
        due("prize(0, -1)", x.prize(0, -1), -1);
        due("divided(0, 0)", x.divided(0, 0), -1);
        due("undo()", x.undo(), -1);
        due("hall at first", x.house(0, 30), 30);
        due("unit at first", x.house(1, 1), 1);
        int[] first = {2, 3, 4, 6};
        for (int o = 0; o < 4; o++) {
            x.panel(o, o);
            due("coupon", Check.bet(x, "" + o), o);
            due("points of outcome " + o, x.best(o), first[o]);
        }
        due("NONE", PoolsHall.NONE, -1);
    }

    private static void score() {
        Check.begin("promise 2");
        PoolsHall x = new PoolsHall();
        due("score(0, 20, 0)", x.score(0, 20, 0), true);
        due("score(13, 0, 20)", x.score(13, 0, 20), true);
        due("score(1, 20, 20)", x.score(1, 20, 20), true);
        due("score(2, 0, 0)", x.score(2, 0, 0), true);
        due("outcome(0)", x.outcome(0), 0);
        due("outcome(13)", x.outcome(13), 1);
        due("outcome(1)", x.outcome(1), 3);
        due("outcome(2)", x.outcome(2), 2);
        int[][] refused = {{-1, 0, 0}, {14, 0, 0}, {0, -1, 0}, {0, 0, -1}, {0, 21, 0}, {0, 0, 21},
            {LEAST_INT, 0, 0}, {MOST_INT, 0, 0}, {0, LEAST_INT, 1}, {0, 1, MOST_INT}};
        for (int[] r : refused) {
            due("score(" + r[0] + ", " + r[1] + ", " + r[2] + ")", x.score(r[0], r[1], r[2]), false);
        }
        due("outcome(0) behind what was refused", x.outcome(0), 0);
        due("count(8)", x.count(8), 4);
        due("score(0, 1, 2)", x.score(0, 1, 2), true);
        due("outcome(0) with another score", x.outcome(0), 1);
        x.panel(3, 0);
        x.score(3, 1, 1);
        due("a score goes ahead of a panel", x.outcome(3), 3);
    }

    private static void panel() {
        Check.begin("promise 3");
        PoolsHall x = new PoolsHall();
        for (int o = 0; o < 4; o++) {
            due("panel(" + o + ")", x.panel(o, o), true);
            due("outcome(" + o + ")", x.outcome(o), o);
        }
        x.score(5, 3, 0);
        due("panel(5, 2)", x.panel(5, 2), true);
        due("outcome(5): the score is gone", x.outcome(5), 2);
        x.score(5, 3, 0);
        due("panel(5, -1)", x.panel(5, -1), true);
        due("outcome(5): both are gone", x.outcome(5), -1);
        x.score(6, 0, 1);
        int[][] refused = {{-1, 0}, {14, 0}, {6, 4}, {6, -2}, {LEAST_INT, 0}, {MOST_INT, 0}, {6, LEAST_INT}, {6, MOST_INT}};
        for (int[] r : refused) {
            due("panel(" + r[0] + ", " + r[1] + ")", x.panel(r[0], r[1]), false);
        }
        due("outcome(6) behind what was refused", x.outcome(6), 1);
    }

    private static void outcome() {
        Check.begin("promise 4");
        PoolsHall x = new PoolsHall();
        x.score(13, 4, 4);
        due("outcome(13)", x.outcome(13), 3);
        due("outcome(12)", x.outcome(12), -1);
        for (int m : new int[] {-1, 14, LEAST_INT, MOST_INT}) {
            due("outcome(" + m + ")", x.outcome(m), -1);
        }
    }

    private static void points() {
        Check.begin("promise 5");
        PoolsHall x = new PoolsHall();
        Check.bet(x, "0");
        for (int o = 0; o < 4; o++) {
            x.panel(0, o);
            due("points(" + o + ", 9)", x.points(o, 9), true);
            due("best(0)", x.best(0), 9);
            due("points(" + o + ", 0)", x.points(o, 0), true);
            due("best(0)", x.best(0), 0);
            due("points(" + o + ", 10)", x.points(o, 10), false);
            due("points(" + o + ", -1)", x.points(o, -1), false);
            due("best(0) behind what was refused", x.best(0), 0);
        }
        for (int o : new int[] {-1, 4, LEAST_INT, MOST_INT}) {
            due("points(" + o + ", 1)", x.points(o, 1), false);
        }
        due("points(0, MAX)", x.points(0, MOST_INT), false);
        due("points(0, MIN)", x.points(0, LEAST_INT), false);
    }

    private static void feed() {
        Check.begin("promise 6");
        PoolsHall x = new PoolsHall();
        for (int n = 20; n <= 200; n += 20) {
            due("feed()", x.feed(0, 0, 0, 0, 0), n);
        }
        due("feed() on a full tape", x.feed(0, 0, 0, 0, 0), -1);
        due("count(7)", x.count(7), 200);
        due("end(181)", x.end(181), true);
        due("feed() with 181", x.feed(0, 0, 0, 0, 0), -1);
        due("count(7)", x.count(7), 181);
        due("end(180)", x.end(180), true);
        due("feed() with 180", x.feed(0, 0, 0, 0, 0), 200);
        PoolsHall y = new PoolsHall();
        int[] n = Check.numbersOf("2:0.1.2|3.4|5+6|07.8", 0);
        due("feed()", y.feed(n[0], n[1], n[2], n[3], n[4]), 20);
        due("all twenty bytes in their order", y.coupon(1, 1), 0);
        due("lines", Check.told(y, 0, 0), 6);
        due("the last line", y.line(0, 5), 128 + 256);
        due("a byte above 127: feed()", y.feed(0xB1000000, 0, 0, 0, 0), 20);
        y.end(1);
        due("coupon()", y.coupon(1, 1), -1);
        due("fault(0)", y.fault(0), 1);
    }

    private static void end() {
        Check.begin("promise 7");
        PoolsHall x = new PoolsHall();
        due("end(0) of an empty tape", x.end(0), true);
        due("end(1) of an empty tape", x.end(1), false);
        x.feed(0x30000000, 0, 0, 0, 0);
        due("end(21)", x.end(21), false);
        due("end(-1)", x.end(-1), false);
        due("end(MIN)", x.end(LEAST_INT), false);
        due("end(MAX)", x.end(MOST_INT), false);
        due("count(7)", x.count(7), 20);
        due("end(20)", x.end(20), true);
        due("count(7)", x.count(7), 20);
        due("end(1)", x.end(1), true);
        due("end(2)", x.end(2), false);
        due("count(7)", x.count(7), 1);
        due("feed() behind what was cut", x.feed(0x2E310000, 0, 0, 0, 0), 21);
        x.end(3);
        due("coupon()", x.coupon(1, 1), 0);
        due("line(0, 0)", x.line(0, 0), 3);
        for (int n = 1; n <= 3; n += 2) {
            x.feed(0x302E312E, 0x322E332E, 0x342E352E, 0x362E372E, 0x382E3039);
            due("end(" + n + ") cuts a text off", x.end(n), true);
            due("coupon()", x.coupon(1, 1), (n + 1) / 2);
            due("its line", x.line((n + 1) / 2, 0), n);
        }
        x.feed(0x302E312E, 0, 0, 0, 0);
        x.end(2);
        due("coupon() of a text cut short", x.coupon(1, 1), -1);
        due("fault(1)", x.fault(1), 2);
    }

    private static void coupon() {
        Check.begin("promise 8");
        PoolsHall x = new PoolsHall();
        for (int i = 0; i < 20; i++) {
            due("coupon " + i, Check.bet(x, "0", i == 0 ? 100 : 1, i == 0 ? 9 : 1), i);
            due("count(7)", x.count(7), 0);
        }
        due("coupon 20", Check.bet(x, "0"), -1);
        due("fault(0)", x.fault(0), 0);
        due("count(7)", x.count(7), 0);
        due("count(1)", x.count(1), 20);
        due("coupon 20 with a fault", Check.bet(x, "x"), -1);
        due("fault(0): others are asked ahead", x.fault(0), 0);
    }

    private static void couponRefused() {
        Check.begin("promise 8, refused");
        PoolsHall x = new PoolsHall();
        int[][] refused = {{0, 1}, {101, 1}, {-1, 1}, {1, 0}, {1, 10}, {1, -1}, {LEAST_INT, 1}, {MOST_INT, 1}, {1, LEAST_INT}, {1, MOST_INT}};
        for (int[] r : refused) {
            Check.bet(x, "99");
            due("fault(0)", x.fault(0), 2);
            due("coupon(" + r[0] + ", " + r[1] + ")", Check.bet(x, "0", r[0], r[1]), -1);
            due("fault(0)", x.fault(0), 0);
            due("count(7)", x.count(7), 0);
            due("with a fault, too", Check.bet(x, "1.x", r[0], r[1]), -1);
            due("fault(0)", x.fault(0), 0);
            due("fault(1)", x.fault(1), 0);
        }
        due("count(1)", x.count(1), 0);
        due("a text of nothing", x.coupon(1, 1), -1);
        due("fault(0)", x.fault(0), 1);
        due("count(1)", x.count(1), 0);
    }

    private static void plans() {
        Check.begin("plans");
        Check.dueLines("0", 1);
        Check.dueLines("00", 1);
        Check.dueLines("13", 8192);
        Check.dueLines(ALL, 16383);
        Check.dueLines("2:0.1.2", 3, 5, 6);
        Check.dueLines("02:0.01.2", 3, 5, 6);
        Check.dueLines("0:5.6", 0);
        Check.dueLines("1:13.0", 1, 8192);
        Check.dueLines("14:" + ALL, 16383);
        Check.dueLines("0|1", 1, 2);
        Check.dueLines("1|0|1", 1, 2);
        Check.dueLines("1:0.1&1:1.2", 2);
        Check.dueLines("1:0.1.2-1", 1, 4);
        Check.dueLines("0&1");
        Check.dueLines("0-0");
        Check.dueLines("0-0|5", 32);
        Check.dueLines("0|1-0|0", 1, 2);
        Check.dueLines("0-(0-0)", 1);
        Check.dueLines("0-0-0");
        Check.dueLines("0|1&1", 2);
        Check.dueLines("0|(1&1)", 1, 2);
        Check.dueLines("0+1", 3);
        Check.dueLines("0+0");
        Check.dueLines("0+1|2", 3, 4);
        Check.dueLines("2|0+1", 3, 4);
        Check.dueLines("(0|1)+(1|2)", 3, 5, 6);
        Check.dueLines("1:0.1+1:0.1+2", 7);
        Check.dueLines("1:0.1.2+1:0.1.2", 3, 5, 6);
        Check.dueLines("0:0+7", 128);
        Check.dueLines("(0-0)+7");
        Check.dueLines("5.6+7.8+13", 32 + 64 + 128 + 256 + 8192);
        Check.dueLines("2:5.6.7+1:4.6", 112, 176, 208, 224);
    }

    private static void plansThatNest() {
        Check.begin("plans that nest");
        Check.dueLines("((((((3))))))", 8);
        Check.dueLines("(((0)))+(((1)))|((2))", 3, 4);
        // At each depth one set waits for | and one for +, so that the stack of sets is full.
        Check.dueLines("0|1+(2|3+(4|5+(6|7+(8|9+(10|11+(12|13+0))))))",
            1, 6, 26, 106, 426, 1706, 2 + 8 + 32 + 128 + 512 + 2048 + 4096, 2 + 8 + 32 + 128 + 512 + 2048 + 8192 + 1);
        StringBuilder every = new StringBuilder();
        for (int m = 0; m < 14; m++) {
            every.append(m == 0 ? "" : "+").append("(0:0|").append(m).append(")");
        }
        PoolsHall x = new PoolsHall();
        due("coupon of all lines", Check.bet(x, every.toString()), 0);
        due("lines", Check.told(x, 0, 0), 16384);
        due("coupon of all but one", Check.bet(x, every + "-(" + ALL + ")"), 1);
        due("lines", Check.told(x, 1, 0), 16383);
        due("unlike(0, 1)", x.unlike(0, 1), 16383);
        due("line(0, 16383)", x.line(0, 16383), 16383);
        due("stake at the highest price", Check.bet(x, every.toString(), 100, 1), 2);
        due("told(2, 1)", Check.told(x, 2, 1), 1638400);
        PoolsHall y = new PoolsHall();
        due("seven and seven", Check.bet(y, "7:" + ALL + "+7:" + ALL), 0);
        due("lines", Check.told(y, 0, 0), 1);
        due("line", y.line(0, 0), 16383);
        due("three and four", Check.bet(y, "3:" + ALL + "+4:" + ALL), 1);
        due("seven", Check.bet(y, "7:" + ALL), 2);
        due("unlike(1, 2)", y.unlike(1, 2), -1);
        due("seven and eight", Check.bet(y, "7:" + ALL + "+8:" + ALL), 3);
        due("lines", Check.told(y, 3, 0), 0);
        String longest = "0" + "|1".repeat(99);
        due("a text of 199", Check.bet(y, longest), 4);
        due("a text of 200", Check.bet(y, "0" + longest), 5);
        due("a text of 200 that can't end", Check.bet(y, longest + "|"), -1);
        due("fault(1)", y.fault(1), 200);
    }

    private static void fault() {
        Check.begin("promise 9");
        PoolsHall x = new PoolsHall();
        Check.bet(x, "0|77");
        for (int what : new int[] {-1, 2, LEAST_INT, MOST_INT}) {
            due("fault(" + what + ")", x.fault(what), -1);
        }
        due("fault(0)", x.fault(0), 2);
        due("fault(1)", x.fault(1), 2);
        due("fault(1) again", x.fault(1), 2);
        Check.bet(x, "0");
        due("fault(0) behind one without", x.fault(0), 0);
        due("fault(1) behind one without", x.fault(1), 0);
        Check.bet(x, "0x");
        x.coupon(0, 0);
        due("fault(0) behind a price", x.fault(0), 0);
        Check.bet(x, "0x");
        Check.panelAll(x, 0);
        x.settle();
        due("fault(0) behind settle()", x.fault(0), 1);
        x.undo();
        due("fault(1) behind undo()", x.fault(1), 1);
    }

    private static void faultsOfTexts() {
        Check.begin("faults");
        Check.dueFault("", 1, 0);
        Check.dueFault("13", 0, 0);
        Check.dueFault("14", 2, 0);
        Check.dueFault("14x", 2, 0);
        Check.dueFault("140", 2, 0);
        Check.dueFault("100", 1, 2);
        Check.dueFault("0|14", 2, 2);
        Check.dueFault("0.14", 2, 2);
        Check.dueFault("0.1.0", 2, 4);
        Check.dueFault("0.00", 2, 2);
        Check.dueFault("0+0", 0, 0);
        Check.dueFault("3:0.1", 2, 0);
        Check.dueFault("03:0.1", 2, 0);
        Check.dueFault("2:0.1", 0, 0);
        Check.dueFault("2:0.1.", 1, 6);
        Check.dueFault("3:0.1x", 2, 0);
        Check.dueFault("3:0.1)", 2, 0);
        Check.dueFault("3:0.1.x", 1, 6);
        Check.dueFault("3:0.0", 2, 4);
        Check.dueFault("3:99", 2, 2);
        Check.dueFault("2:3:4", 2, 0);
        Check.dueFault("1:3:4", 1, 3);
        Check.dueFault("1.2:3", 1, 3);
        Check.dueFault("(2:0)", 2, 1);
        Check.dueFault("0+2:0", 2, 2);
        Check.dueFault("99:", 1, 3);
        Check.dueFault("99:0", 2, 0);
        Check.dueFault("123:0", 1, 2);
        Check.dueFault("1:123", 1, 4);
        Check.dueFault(":", 1, 0);
        Check.dueFault(".", 1, 0);
        Check.dueFault("0.", 1, 2);
        Check.dueFault("0..1", 1, 2);
        Check.dueFault("0|", 1, 2);
        Check.dueFault("0||1", 1, 2);
        Check.dueFault("|0", 1, 0);
        Check.dueFault("0&&1", 1, 2);
        Check.dueFault("0-", 1, 2);
        Check.dueFault("-0", 1, 0);
        Check.dueFault("0++1", 1, 2);
        Check.dueFault("0&amp;1", 1, 2);
        Check.dueFault("()", 1, 1);
        Check.dueFault("(0", 1, 2);
        Check.dueFault("0)", 1, 1);
        Check.dueFault("(0))", 1, 3);
        Check.dueFault("(0)1", 1, 3);
        Check.dueFault("0(1)", 1, 1);
        Check.dueFault("(0)(1)", 1, 3);
        Check.dueFault("2:(0.1)", 1, 2);
        Check.dueFault("0 ", 1, 1);
        Check.dueFault(" 0", 1, 0);
        Check.dueFault("0\0", 1, 1);
        Check.dueFault("0/1", 1, 1);
        Check.dueFault("0;1", 1, 1);
        Check.dueFault("((((((", 1, 6);
        Check.dueFault("(((((((", 3, 6);
        Check.dueFault("((((((0))))))", 0, 0);
        Check.dueFault("(((((((0)))))))", 3, 6);
        Check.dueFault("((((((0))))))+((((((1))))))", 0, 0);
        Check.dueFault("(((((0))+(((((1", 3, 12);
        Check.dueFault("((((((0(", 1, 7);
        Check.dueFault("(((((((x", 3, 6);
        Check.dueFault("((((((x", 1, 6);
        Check.dueFault("14(((((((", 2, 0);
        Check.dueFault("0|x|14", 1, 2);
        Check.dueFault("0|14|x", 2, 2);
        Check.dueFault("0\u00B1", 1, 1);
        Check.dueFault("\u00FF", 1, 0);
    }

    private static void tear() {
        Check.begin("promise 10");
        PoolsHall x = new PoolsHall();
        due("tear(0, true) without", x.tear(0, true), false);
        Check.bet(x, "0|1", 10, 1);
        Check.bet(x, "2", 7, 1);
        due("tear(0, true)", x.tear(0, true), true);
        due("tear(0, true) again", x.tear(0, true), true);
        due("told(0, 2)", Check.told(x, 0, 2), 1);
        due("told(1, 2)", Check.told(x, 1, 2), 0);
        due("count(3)", x.count(3), 7);
        due("its stake stays", Check.told(x, 0, 1), 20);
        due("its lines stay", x.line(0, 1), 2);
        due("count(1)", x.count(1), 2);
        for (int c : new int[] {-1, 2, 20, LEAST_INT, MOST_INT}) {
            due("tear(" + c + ", true)", x.tear(c, true), false);
        }
        due("tear(0, false)", x.tear(0, false), true);
        due("told(0, 2)", Check.told(x, 0, 2), 0);
        due("count(3)", x.count(3), 27);
    }

    private static void told() {
        Check.begin("promise 11");
        PoolsHall x = new PoolsHall();
        due("told(0, 0) without", Check.told(x, 0, 0), THROWN);
        Check.bet(x, "2:0.5.6+13|13.12", 100, 9);
        Check.bet(x, "0&1", 3, 2);
        Check.bet(x, "0:0", 4, 3);
        long[][] due = {{4, 400, 0, 100, 9, 1 + 32 + 64 + 4096 + 8192, 8192}, {0, 0, 0, 3, 2, 0, 16383}, {1, 4, 0, 4, 3, 0, 0}};
        for (int c = 0; c < due.length; c++) {
            for (int what = 0; what < 7; what++) {
                due("told(" + c + ", " + what + ")", Check.told(x, c, what), due[c][what]);
            }
            for (int what : new int[] {-1, 7, LEAST_INT, MOST_INT}) {
                due("told(" + c + ", " + what + ")", Check.told(x, c, what), THROWN);
            }
        }
        Check.bet(x, ALL);
        due("told(3, 5)", Check.told(x, 3, 5), 16383);
        due("told(3, 6)", Check.told(x, 3, 6), 16383);
        for (int c : new int[] {-1, 4, 20, LEAST_INT, MOST_INT}) {
            due("told(" + c + ", 0)", Check.told(x, c, 0), THROWN);
            due("told(" + c + ", 7)", Check.told(x, c, 7), THROWN);
        }
        Check.bet(x, "1.5|1.7.5|1.5.13");
        due("told(4, 5)", Check.told(x, 4, 5), 2 + 32 + 128 + 8192);
        due("told(4, 6)", Check.told(x, 4, 6), 2 + 32);
    }

    private static void line() {
        Check.begin("promise 12");
        PoolsHall x = new PoolsHall();
        due("line(0, 0) without", x.line(0, 0), -1);
        Check.bet(x, "13|5|6|0:0|" + ALL);
        int[] numbers = {0, 32, 64, 8192, 16383};
        for (int i = 0; i < numbers.length; i++) {
            due("line(0, " + i + ")", x.line(0, i), numbers[i]);
        }
        for (int i : new int[] {-1, 5, 16384, LEAST_INT, MOST_INT}) {
            due("line(0, " + i + ")", x.line(0, i), -1);
        }
        for (int c : new int[] {-1, 1, 20, LEAST_INT, MOST_INT}) {
            due("line(" + c + ", 0)", x.line(c, 0), -1);
        }
        linesOfSeven();
    }

    /** Every line of seven matches; a new object each 500 calls, as no more are promised of one. */
    private static void linesOfSeven() {
        PoolsHall x = null;
        int i = 0;
        for (int number = 0; number < 16384; number++) {
            if (Integer.bitCount(number) == 7) {
                if (i % 500 == 0) {
                    x = new PoolsHall();
                    Check.bet(x, "7:" + ALL);
                }
                due("line(0, " + i + ")", x.line(0, i), number);
                i++;
            }
        }
        due("line behind the last", x.line(0, i), -1);
    }

    private static void below() {
        Check.begin("promise 13");
        PoolsHall x = new PoolsHall();
        due("below(0, 0) without", x.below(0, 0), -1);
        Check.bet(x, "13|5|6|0:0|" + ALL);
        int[][] due = {{0, 0}, {1, 1}, {32, 1}, {33, 2}, {63, 2}, {64, 2}, {65, 3}, {8192, 3}, {8193, 4}, {16383, 4}, {16384, 5}};
        for (int[] d : due) {
            due("below(0, " + d[0] + ")", x.below(0, d[0]), d[1]);
        }
        for (int number : new int[] {-1, 16385, LEAST_INT, MOST_INT}) {
            due("below(0, " + number + ")", x.below(0, number), -1);
        }
        for (int c : new int[] {-1, 1, 20, LEAST_INT, MOST_INT}) {
            due("below(" + c + ", 0)", x.below(c, 0), -1);
        }
    }

    private static void unlike() {
        Check.begin("promise 14");
        PoolsHall x = new PoolsHall();
        Check.bet(x, "2:0.1.2");
        Check.bet(x, "1.2|0.2|0.1", 9, 9);
        Check.bet(x, "2:0.1.2|13");
        Check.bet(x, "0.1|1.2");
        Check.bet(x, "0-0");
        Check.bet(x, "0:0");
        x.tear(1, true);
        due("unlike(0, 1)", x.unlike(0, 1), -1);
        due("unlike(0, 0)", x.unlike(0, 0), -1);
        due("unlike(0, 2)", x.unlike(0, 2), 8192);
        due("unlike(2, 0)", x.unlike(2, 0), 8192);
        due("unlike(0, 3)", x.unlike(0, 3), 5);
        due("unlike(3, 0)", x.unlike(3, 0), 5);
        due("unlike(4, 0)", x.unlike(4, 0), 3);
        due("unlike(4, 4)", x.unlike(4, 4), -1);
        due("unlike(4, 5)", x.unlike(4, 5), 0);
        for (int c : new int[] {-1, 6, 20, LEAST_INT, MOST_INT}) {
            due("unlike(" + c + ", 0)", x.unlike(c, 0), -2);
            due("unlike(0, " + c + ")", x.unlike(0, c), -2);
            due("unlike(" + c + ", " + c + ")", x.unlike(c, c), -2);
        }
    }

    /** Matches 0 .. 3 and 10 .. 13 have the outcomes 0 .. 3, those between have none. */
    private static PoolsHall halfPlayed() {
        PoolsHall x = new PoolsHall();
        for (int o = 0; o < 4; o++) {
            x.panel(o, o);
            x.panel(10 + o, o);
        }
        return x;
    }

    private static void win() {
        Check.begin("promise 15");
        PoolsHall x = halfPlayed();
        due("win(0, 0) without", x.win(0, 0), -1);
        Check.bet(x, "1:0.1.2.3+1:10.11.12.13|0:0|5.6");
        int[] sums = {2, 0, 0, 0, 1, 2, 3, 2, 3, 2, 2, 0, 1, 0};
        for (int p = 0; p < sums.length; p++) {
            due("win(0, " + p + ")", x.win(0, p), sums[p]);
        }
        for (int p : new int[] {-1, 126, 127, LEAST_INT, MOST_INT}) {
            due("win(0, " + p + ")", x.win(0, p), 0);
        }
        for (int c : new int[] {-1, 1, 20, LEAST_INT, MOST_INT}) {
            due("win(" + c + ", 0)", x.win(c, 0), -1);
        }
        Check.panelAll(x, 3);
        x.points(3, 9);
        Check.bet(x, ALL);
        due("win(1, 126)", x.win(1, 126), 1);
        due("win(1, 125)", x.win(1, 125), 0);
        x.tear(1, true);
        due("win(1, 126) when void", x.win(1, 126), 1);
    }

    private static void best() {
        Check.begin("promise 16");
        PoolsHall x = halfPlayed();
        due("best(0) without", x.best(0), -1);
        Check.bet(x, "1:0.1.2.3+1:10.11.12.13|5.6");
        Check.bet(x, "0-0");
        Check.bet(x, "0:0|5");
        Check.bet(x, "0.1.2|13");
        Check.bet(x, ALL);
        due("best(0)", x.best(0), 12);
        due("best(1)", x.best(1), -1);
        due("best(2)", x.best(2), 0);
        due("best(3)", x.best(3), 9);
        due("best(4)", x.best(4), 30);
        x.points(2, 0);
        due("best(3)", x.best(3), 6);
        x.panel(13, -1);
        due("best(3)", x.best(3), 5);
        for (int c : new int[] {-1, 5, 20, LEAST_INT, MOST_INT}) {
            due("best(" + c + ")", x.best(c), -1);
        }
        Check.panelAll(x, 0);
        x.points(0, 9);
        due("best(4)", x.best(4), 126);
    }

    private static void still() {
        Check.begin("promise 17");
        PoolsHall x = halfPlayed();
        due("still(0) without", x.still(0), -1);
        Check.bet(x, "1:0.1.2.3+1:10.11.12.13");
        Check.bet(x, "0-0");
        Check.bet(x, "0.5|2");
        Check.bet(x, "0:0");
        Check.bet(x, ALL);
        due("still(0)", x.still(0), 12);
        due("still(1)", x.still(1), -1);
        due("still(2)", x.still(2), 8);
        due("still(3)", x.still(3), 0);
        due("still(4)", x.still(4), 30 + 36);
        x.points(1, 9);
        due("the most of all four", x.still(2), 11);
        for (int o = 0; o < 4; o++) {
            x.points(o, 0);
        }
        due("all of no worth", x.still(4), 0);
        for (int c : new int[] {-1, 5, 20, LEAST_INT, MOST_INT}) {
            due("still(" + c + ")", x.still(c), -1);
        }
    }

    private static void could() {
        Check.begin("promise 18");
        PoolsHall x = halfPlayed();
        due("could(0, 0) without", x.could(0, 0), -1);
        Check.bet(x, "0.5|2|5.6|0:0");
        int[][] due = {{-1, 4}, {LEAST_INT, 4}, {0, 4}, {1, 3}, {4, 3}, {5, 2}, {8, 2}, {9, 1}, {12, 1}, {13, 0}, {127, 0}, {MOST_INT, 0}};
        for (int[] d : due) {
            due("could(0, " + d[0] + ")", x.could(0, d[0]), d[1]);
        }
        x.points(0, 8);
        due("the most of all four", x.could(0, 16), 2);
        due("more than that", x.could(0, 17), 0);
        for (int c : new int[] {-1, 1, 20, LEAST_INT, MOST_INT}) {
            due("could(" + c + ", 0)", x.could(c, 0), -1);
        }
        Check.bet(x, "0-0");
        due("could(1, 0)", x.could(1, 0), 0);
    }

    private static void sure() {
        Check.begin("promise 19");
        PoolsHall x = halfPlayed();
        due("sure(0, 0) without", x.sure(0, 0), -1);
        Check.bet(x, "0.5|2|5.6.7|0:0");
        int[][] due = {{-1, 4}, {LEAST_INT, 4}, {0, 4}, {1, 3}, {4, 3}, {5, 1}, {6, 1}, {7, 0}, {127, 0}, {MOST_INT, 0}};
        for (int[] d : due) {
            due("sure(0, " + d[0] + ")", x.sure(0, d[0]), d[1]);
        }
        x.points(3, 1);
        due("the least of all four", x.sure(0, 3), 3);
        due("the least of all four", x.sure(0, 4), 1);
        for (int c : new int[] {-1, 1, 20, LEAST_INT, MOST_INT}) {
            due("sure(" + c + ", 0)", x.sure(c, 0), -1);
        }
        Check.bet(x, "0-0");
        due("sure(1, 0)", x.sure(1, 0), 0);
    }

    private static void house() {
        Check.begin("promise 20");
        PoolsHall x = new PoolsHall();
        due("house(0, 100)", x.house(0, 100), 30);
        due("house(0, 0)", x.house(0, 0), 100);
        due("house(1, 1000)", x.house(1, 1000), 1);
        due("house(1, 1)", x.house(1, 1), 1000);
        int[][] refused = {{0, -1}, {0, 101}, {1, 0}, {1, 1001}, {1, -1}, {2, 1}, {-1, 1},
            {LEAST_INT, 1}, {MOST_INT, 1}, {0, LEAST_INT}, {0, MOST_INT}, {1, LEAST_INT}, {1, MOST_INT}};
        for (int[] r : refused) {
            due("house(" + r[0] + ", " + r[1] + ")", x.house(r[0], r[1]), -2);
        }
        due("house(0, 5) behind what was refused", x.house(0, 5), 0);
        due("house(1, 5) behind what was refused", x.house(1, 5), 1);
    }

    private static void dividend() {
        Check.begin("promise 21");
        PoolsHall x = new PoolsHall();
        int[][] refused = {{91, 1, 1}, {-1, 1, 1}, {90, -1, 1}, {90, 101, 1}, {90, 1, 0}, {90, 1, 1000001}, {90, 1, -1},
            {LEAST_INT, 1, 1}, {MOST_INT, 1, 1}, {1, LEAST_INT, 1}, {1, MOST_INT, 1}, {1, 1, LEAST_INT}, {1, 1, MOST_INT}};
        for (int[] r : refused) {
            due("dividend(" + r[0] + ", " + r[1] + ", " + r[2] + ")", x.dividend(r[0], r[1], r[2]), -1);
        }
        due("count(2)", x.count(2), 0);
        due("dividend(90, 60, 1000000)", x.dividend(90, 60, 1000000), 0);
        due("dividend(90, 1, 1): not less", x.dividend(90, 1, 1), -1);
        due("dividend(89, 41, 1): too much together", x.dividend(89, 41, 1), -1);
        due("dividend(89, MAX, 1)", x.dividend(89, MOST_INT, 1), -1);
        due("dividend(89, 40, 1)", x.dividend(89, 40, 1), 1);
        due("dividend(88, 1, 1): too much together", x.dividend(88, 1, 1), -1);
        due("dividend(1, 0, 7)", x.dividend(1, 0, 7), 2);
        due("dividend(0, 0, 8)", x.dividend(0, 0, 8), 3);
        due("dividend 4", x.dividend(0, 0, 1), -1);
        due("count(2)", x.count(2), 4);
        due("divided(0, 0)", x.divided(0, 0), 90);
        due("divided(3, 2)", x.divided(3, 2), 8);
        due("divided(0, 3)", x.divided(0, 3), 0);
        PoolsHall y = new PoolsHall();
        for (int i = 0; i < 4; i++) {
            due("dividend " + i, y.dividend(50 - i, 10, 1), i);
        }
        due("dividend 4 with numbers as told", y.dividend(20, 10, 1), -1);
        due("count(2)", y.count(2), 4);
    }

    private static void repeal() {
        Check.begin("promise 22");
        PoolsHall x = new PoolsHall();
        due("repeal() without", x.repeal(), 0);
        x.dividend(90, 50, 10);
        x.dividend(80, 20, 10);
        x.dividend(70, 10, 10);
        Check.panelAll(x, 0);
        Check.bet(x, "0", 100, 1);
        due("settle()", x.settle(), 0);
        due("count(4)", x.count(4), 30 + 70 - 35 - 14 - 7);
        due("count(6)", x.count(6), 35 + 14 + 7);
        due("repeal()", x.repeal(), 3);
        due("count(4)", x.count(4), 100);
        due("count(6)", x.count(6), 0);
        due("count(2)", x.count(2), 0);
        due("divided(0, 0)", x.divided(0, 0), -1);
        due("repeal() again", x.repeal(), 0);
        due("count(4)", x.count(4), 100);
        due("dividend(90, 100, 1) is free again", x.dividend(90, 100, 1), 0);
        due("divided(0, 3): it carries nothing", x.divided(0, 3), 0);
        due("divided(0, 4)", x.divided(0, 4), 0);
        due("prize(0, -1) stays", x.prize(0, -1), 0);
    }

    private static void settle() {
        Check.begin("promise 23");
        PoolsHall x = new PoolsHall();
        due("settle() without outcomes", x.settle(), -1);
        Check.panelAll(x, 0);
        Check.bet(x, "0.1|2", 10, 1);
        x.dividend(4, 100, 1000);
        x.panel(13, -1);
        due("settle() without one outcome", x.settle(), -1);
        due("count(0)", x.count(0), 0);
        due("count(1)", x.count(1), 1);
        due("count(8)", x.count(8), 13);
        due("undo()", x.undo(), -1);
        x.score(13, 0, 0);
        x.feed(0, 0, 0, 0, 0);
        due("settle()", x.settle(), 10);
        due("count(0)", x.count(0), 1);
        due("count(1)", x.count(1), 0);
        due("count(3)", x.count(3), 0);
        due("count(8)", x.count(8), 0);
        due("count(7): the tape stays", x.count(7), 20);
        due("count(2): dividends stay", x.count(2), 1);
        due("divided(0, 3)", x.divided(0, 3), 4);
        due("outcome(13)", x.outcome(13), -1);
        due("told(0, 0)", Check.told(x, 0, 0), THROWN);
        due("settle() of the next week", x.settle(), -1);
        Check.panelAll(x, 1);
        due("settle() without coupons", x.settle(), 0);
        due("count(0)", x.count(0), 2);
        due("divided(0, 3) stays", x.divided(0, 3), 4);
        due("divided(0, 4)", x.divided(0, 4), 0);
        due("prize(0, -1): there was no coupon", x.prize(0, -1), -1);
    }

    private static void settleCutsDown() {
        Check.begin("promise 23, cut down");
        PoolsHall x = new PoolsHall();
        Check.panelAll(x, 0);
        Check.bet(x, "0|1|2", 33, 2);
        Check.bet(x, "4", 100, 1);
        x.tear(1, true);
        x.house(0, 7);
        x.dividend(1, 33, 1000000);
        // Stakes 99, the hall 6 (6.93), the pool 93, the dividend 30 (30.69): nothing for 99 winners.
        due("settle()", x.settle(), 0);
        due("divided(0, 4)", x.divided(0, 4), 99);
        due("divided(0, 5)", x.divided(0, 5), 0);
        due("count(4)", x.count(4), 69);
        due("count(6)", x.count(6), 30);
        due("prize(1, -1) of a void one", x.prize(1, -1), 0);
        PoolsHall y = new PoolsHall();
        Check.panelAll(y, 0);
        Check.bet(y, "0", 10, 1);
        Check.bet(y, "1:0.1.2.3.4.5.6.7.8.9.10.11.12.13+13", 100, 1);
        y.house(0, 0);
        y.house(1, 7);
        y.dividend(4, 0, 5);
        y.dividend(1, 100, 100);
        // Stakes 1310 for 10 winners: 131 a coin, 126 as a multiple of 7, 100 by the ceiling.
        due("settle()", y.settle(), 1000);
        due("divided(1, 5)", y.divided(1, 5), 100);
        due("divided(1, 3)", y.divided(1, 3), 310);
        due("divided(0, 4)", y.divided(0, 4), 1300);
        due("divided(0, 5)", y.divided(0, 5), 0);
        y.undo();
        y.repeal();
        y.dividend(4, 0, 5);
        y.dividend(1, 100, 1000000);
        due("settle() by the unit", y.settle(), 1260);
        due("divided(1, 5)", y.divided(1, 5), 126);
        due("prize(0, -1)", y.prize(0, -1), 1260);
        y.undo();
        y.house(0, 100);
        due("settle() with all for the hall", y.settle(), 0);
        due("count(4)", y.count(4), 1310);
        due("count(6)", y.count(6), 0);
    }

    private static void settleBands() {
        Check.begin("promise 23, bands");
        PoolsHall x = new PoolsHall();
        Check.panelAll(x, 0);
        x.house(0, 0);
        Check.bet(x, "0.1.2.3|0.1.2|0.1|0|0:0", 10, 1);
        Check.bet(x, "0.1.2|2.3.4", 20, 1);
        x.dividend(7, 25, 1000000);
        x.dividend(6, 25, 1000000);
        x.dividend(3, 25, 1000000);
        x.dividend(0, 25, 1000000);
        // Stakes 90, 22 for each dividend, 2 for the hall; the lines have 8, 6, 4, 2, 0 and 6, 6 points.
        due("settle()", x.settle(), 20 + 0 + 20 + 20);
        int[][] due = {{10, 2, 2}, {50, 0, 22}, {10, 2, 2}, {20, 1, 2}};
        for (int d = 0; d < 4; d++) {
            due("divided(" + d + ", 4)", x.divided(d, 4), due[d][0]);
            due("divided(" + d + ", 5)", x.divided(d, 5), due[d][1]);
            due("divided(" + d + ", 3)", x.divided(d, 3), due[d][2]);
        }
        due("count(4)", x.count(4), 2);
        due("count(5)", x.count(5), 60);
        due("count(6)", x.count(6), 28);
        due("prize(0, -1)", x.prize(0, -1), 60);
        due("prize(1, -1)", x.prize(1, -1), 0);
    }

    private static void settleCarries() {
        Check.begin("promise 23, carries");
        PoolsHall x = new PoolsHall();
        x.house(0, 50);
        x.dividend(20, 100, 40);
        long carried = 0;
        for (int week = 0; week < 3; week++) {
            Check.panelAll(x, 0);
            due("coupon", Check.bet(x, "0.1.2", 100, 1), 0);
            due("settle()", x.settle(), 0);
            carried += 50;
            due("count(6)", x.count(6), carried);
            due("divided(0, 4)", x.divided(0, 4), 0);
        }
        Check.panelAll(x, 3);
        due("coupon", Check.bet(x, "0.1.2.3", 4, 3), 0);
        // 150 and 2 for 4 winners: 38 a coin.
        due("settle()", x.settle(), 152);
        due("count(6)", x.count(6), 0);
        due("count(5)", x.count(5), 152);
        due("count(4)", x.count(4), 152);
        due("prize(0, 0)", x.prize(0, 0), 52);
        due("prize(0, 2)", x.prize(0, 2), 50);
    }

    private static void count() {
        Check.begin("promise 24");
        PoolsHall x = new PoolsHall();
        Check.bet(x, "0|1", 5, 1);
        Check.bet(x, "0|1", 7, 1);
        x.tear(0, true);
        x.dividend(5, 50, 100);
        x.feed(0, 0, 0, 0, 0);
        x.score(3, 1, 0);
        long[] due = {0, 2, 1, 14, 0, 0, 0, 20, 1};
        for (int what = 0; what < due.length; what++) {
            due("count(" + what + ")", x.count(what), due[what]);
        }
        Check.panelAll(x, 0);
        x.settle();
        long[] then = {1, 0, 1, 0, 9, 0, 5, 20, 0};
        for (int what = 0; what < then.length; what++) {
            due("count(" + what + ") then", x.count(what), then[what]);
        }
        for (int what : new int[] {-1, 9, LEAST_INT, MOST_INT}) {
            due("count(" + what + ")", x.count(what), -1);
        }
    }

    private static void divided() {
        Check.begin("promise 25");
        PoolsHall x = new PoolsHall();
        due("divided(0, 0) without", x.divided(0, 0), -1);
        x.dividend(5, 50, 100);
        long[] due = {5, 50, 100, 0, 0, 0};
        for (int what = 0; what < due.length; what++) {
            due("divided(0, " + what + ")", x.divided(0, what), due[what]);
        }
        Check.bet(x, "0.1.2|3", 100, 1);
        Check.bet(x, "0", 13, 1);
        Check.panelAll(x, 0);
        due("settle()", x.settle(), 0);
        Check.panelAll(x, 0);
        Check.bet(x, "0.1.2|3", 10, 1);
        // 213 - 63 is 150, by half 75, then 20 - 6 is 14, by half 7.
        due("settle()", x.settle(), 80);
        long[] then = {5, 50, 100, 2, 10, 8};
        for (int what = 0; what < then.length; what++) {
            due("divided(0, " + what + ") then", x.divided(0, what), then[what]);
        }
        x.dividend(4, 1, 1);
        due("a new one had no winners", x.divided(1, 4), 0);
        Check.panelAll(x, 0);
        Check.bet(x, "0", 10, 1);
        due("settle() without winners", x.settle(), 0);
        due("divided(0, 4) without winners", x.divided(0, 4), 0);
        due("divided(0, 5) without winners", x.divided(0, 5), 0);
        for (int what : new int[] {-1, 6, LEAST_INT, MOST_INT}) {
            due("divided(0, " + what + ")", x.divided(0, what), -1);
        }
        for (int d : new int[] {-1, 2, 4, LEAST_INT, MOST_INT}) {
            due("divided(" + d + ", 0)", x.divided(d, 0), -1);
        }
    }

    private static void prize() {
        Check.begin("promise 26");
        PoolsHall x = new PoolsHall();
        x.house(0, 0);
        x.dividend(2, 100, 1000000);
        Check.bet(x, "0|1", 10, 9);
        Check.bet(x, "0:0", 100, 4);
        Check.bet(x, "3", 3, 2);
        Check.bet(x, "3", 100, 2);
        x.tear(3, true);
        Check.panelAll(x, 0);
        due("prize(0, -1) ahead", x.prize(0, -1), -1);
        // 123 for 23 winners: 5 a coin.
        due("settle()", x.settle(), 115);
        due("prize(0, -1)", x.prize(0, -1), 100);
        due("prize(0, 0)", x.prize(0, 0), 12);
        for (int part = 1; part < 9; part++) {
            due("prize(0, " + part + ")", x.prize(0, part), 11);
        }
        due("prize(1, -1)", x.prize(1, -1), 0);
        due("prize(1, 3)", x.prize(1, 3), 0);
        due("prize(2, -1)", x.prize(2, -1), 15);
        due("prize(2, 0)", x.prize(2, 0), 8);
        due("prize(2, 1)", x.prize(2, 1), 7);
        due("prize(3, -1)", x.prize(3, -1), 0);
        due("prize(3, 1)", x.prize(3, 1), 0);
        due("prize(3, 2)", x.prize(3, 2), -1);
        for (int part : new int[] {-2, 9, LEAST_INT, MOST_INT}) {
            due("prize(0, " + part + ")", x.prize(0, part), -1);
        }
        for (int c : new int[] {-1, 4, 20, LEAST_INT, MOST_INT}) {
            due("prize(" + c + ", -1)", x.prize(c, -1), -1);
            due("prize(" + c + ", 0)", x.prize(c, 0), -1);
        }
        Check.bet(x, "5", 1, 1);
        due("a coupon of the new week changes nothing", x.prize(0, -1), 100);
        x.repeal();
        due("nor does repeal()", x.prize(2, 0), 8);
    }

    private static void undo() {
        Check.begin("promise 27");
        PoolsHall x = new PoolsHall();
        x.house(0, 0);
        x.dividend(2, 100, 1000000);
        Check.panelAll(x, 0);
        Check.bet(x, "0", 7, 2);
        Check.bet(x, "0:0", 6, 1);
        due("settle()", x.settle(), 7);
        Check.panelAll(x, 1);
        x.score(4, 2, 2);
        Check.bet(x, "0|1|4", 10, 3);
        Check.bet(x, "1", 10, 1);
        x.tear(1, true);
        due("settle()", x.settle(), 30);
        x.dividend(1, 0, 5);
        Check.bet(x, "9", 1, 1);
        x.panel(2, 2);
        due("undo()", x.undo(), 1);
        due("undo() again", x.undo(), -1);
        due("count(0)", x.count(0), 1);
        due("count(1)", x.count(1), 2);
        due("count(2)", x.count(2), 1);
        due("count(3)", x.count(3), 30);
        due("count(4)", x.count(4), 0);
        due("count(5)", x.count(5), 7);
        due("count(6)", x.count(6), 6);
        due("count(8)", x.count(8), 14);
        due("told(0, 0)", Check.told(x, 0, 0), 3);
        due("told(0, 4)", Check.told(x, 0, 4), 3);
        due("told(1, 2)", Check.told(x, 1, 2), 1);
        due("line(0, 2)", x.line(0, 2), 16);
        due("outcome(4)", x.outcome(4), 3);
        due("outcome(2)", x.outcome(2), 1);
        due("prize(0, -1) of the first settle()", x.prize(0, -1), 7);
        due("prize(0, 0)", x.prize(0, 0), 4);
        due("prize(1, -1)", x.prize(1, -1), 0);
        due("prize(2, -1)", x.prize(2, -1), -1);
        due("divided(0, 4)", x.divided(0, 4), 7);
        due("divided(0, 5)", x.divided(0, 5), 1);
        due("tear(1, false)", x.tear(1, false), true);
        due("settle()", x.settle(), 40);
        due("divided(0, 4)", x.divided(0, 4), 40);
        due("undo()", x.undo(), 1);
        due("told(1, 2)", Check.told(x, 1, 2), 0);
        due("undo() again", x.undo(), -1);
    }

    private static void undoKeeps() {
        Check.begin("promise 27, kept");
        PoolsHall x = new PoolsHall();
        x.dividend(10, 50, 9);
        Check.panelAll(x, 0);
        Check.bet(x, "0.1", 50, 1);
        x.settle();
        x.points(0, 9);
        x.house(0, 10);
        x.house(1, 4);
        x.feed(0, 0, 0, 0, 0);
        x.end(3);
        x.repeal();
        x.dividend(80, 1, 1);
        x.panel(3, 1);
        due("a refused settle() takes nothing", x.settle(), -1);
        due("undo()", x.undo(), 0);
        due("points stay", x.best(0), 18);
        due("hall stays", x.house(0, 10), 10);
        due("unit stays", x.house(1, 4), 4);
        due("tape stays", x.count(7), 3);
        due("divided(0, 0)", x.divided(0, 0), 10);
        due("divided(0, 3)", x.divided(0, 3), 0);
        due("count(4)", x.count(4), 0);
        due("settle()", x.settle(), 0);
        Check.panelAll(x, 0);
        due("settle()", x.settle(), 0);
        due("count(0)", x.count(0), 2);
        due("undo()", x.undo(), 1);
        due("two one behind the other never", x.undo(), -1);
        due("count(0)", x.count(0), 1);
        due("count(1)", x.count(1), 0);
    }
}
