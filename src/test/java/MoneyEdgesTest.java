import java.util.Random;

/** The edges of term 2 and of the promises 21 to 27: what is cut down, who wins, what is carried, told and taken back. */
public final class MoneyEdgesTest {
    private static final String ALL = Check.ALL;
    private static final String TEN = "1:0.1.2.3.4.5.6.7.8.9";
    private static final int ALL_AT_TWO = 28;

    private MoneyEdgesTest() {
    }

    public static void main(String[] args) {
        dividendEdges();
        dividendsTogether();
        dividendNumbers();
        repealEdges();
        settleWithoutAnOutcome();
        hallIsCutDown();
        shareIsCutDown();
        coinIsCutDown();
        unitEdges();
        ceilingEdges();
        greatestCeiling();
        noWinners();
        oneCoin();
        leastPoints();
        leastNinety();
        leastNought();
        voidCoupons();
        withoutDividends();
        withoutCoupons();
        weeksAddUp();
        newDividendBehindSettle();
        dividedEdges();
        partEdges();
        prizesOfTwenty();
        prizesOfTheLatest();
        countEdges();
        undoOfTheFirst();
        undoTwice();
        undoOfAllPlaces();
        undoOfDividends();
        undoOfPrizes();
        everyCoin();
        Check.finish();
    }

    private static void due(String call, long got, long want) {
        Check.due(call, got, want);
    }

    private static void due(String call, boolean got, boolean want) {
        Check.due(call, got, want);
    }

    /** Coupons of one match a line, that have so many coins of stake together. */
    private static void lose(PoolsHall x, int coins) {
        int left = coins;
        for (; left >= 1000; left -= 1000) {
            Check.bet(x, TEN, 100, 1);
        }
        for (; left >= 100; left -= 100) {
            Check.bet(x, "0", 100, 1);
        }
        if (left > 0) {
            Check.bet(x, "0", left, 1);
        }
    }

    /** A week where the line of all matches wins the one dividend, which has all stakes; its coupon is the first. */
    private static PoolsHall won(int all, int winners, int parts, int unit, int ceiling) {
        PoolsHall x = new PoolsHall();
        x.house(0, 0);
        x.house(1, unit);
        x.dividend(ALL_AT_TWO, 100, ceiling);
        Check.panelAll(x, 0);
        due("the coupon that wins", Check.bet(x, ALL, winners, parts), 0);
        lose(x, all - winners);
        due("all stakes", x.count(3), all);
        return x;
    }

    private static void dueCoin(int all, int winners, int unit, int ceiling, long coin) {
        PoolsHall x = won(all, winners, 1, unit, ceiling);
        String is = " of " + all + " for " + winners + " by " + unit + ", at most " + ceiling;
        due("settle()" + is, x.settle(), coin * winners);
        due("divided(0, 4)" + is, x.divided(0, 4), winners);
        due("divided(0, 5)" + is, x.divided(0, 5), coin);
        due("divided(0, 3)" + is, x.divided(0, 3), all - coin * winners);
        due("prize(0, -1)" + is, x.prize(0, -1), coin * winners);
        due("count(4)" + is, x.count(4), 0);
        due("count(5)" + is, x.count(5), coin * winners);
        due("count(6)" + is, x.count(6), all - coin * winners);
    }

    private static void dividendEdges() {
        Check.begin("promise 21, term 2: LEAST (0 .. 90), SHARE, CEILING (1 .. 1000000)");
        for (int least : new int[] {-1, 0, 1, 89, 90, 91}) {
            for (int share : new int[] {-1, 0, 1, 99, 100, 101}) {
                for (int ceiling : new int[] {-1, 0, 1, 2, 999999, 1000000, 1000001}) {
                    boolean taken = least >= 0 && least <= 90 && share >= 0 && share <= 100 && ceiling >= 1 && ceiling <= 1000000;
                    PoolsHall x = new PoolsHall();
                    due("dividend(" + least + ", " + share + ", " + ceiling + ")", x.dividend(least, share, ceiling), taken ? 0 : -1);
                    due("count(2)", x.count(2), taken ? 1 : 0);
                    due("divided(0, 0)", x.divided(0, 0), taken ? least : -1);
                    due("divided(0, 1)", x.divided(0, 1), taken ? share : -1);
                    due("divided(0, 2)", x.divided(0, 2), taken ? ceiling : -1);
                    due("divided(0, 3)", x.divided(0, 3), taken ? 0 : -1);
                }
            }
        }
    }

    private static void dividendsTogether() {
        Check.begin("promise 21, term 2: each less than the one's ahead");
        for (int least = 48; least <= 52; least++) {
            PoolsHall x = new PoolsHall();
            x.dividend(60, 1, 1);
            x.dividend(50, 1, 1);
            due("dividend(" + least + ", 1, 1) behind 50", x.dividend(least, 1, 1), least < 50 ? 2 : -1);
        }
        PoolsHall y = new PoolsHall();
        y.dividend(0, 1, 1);
        due("none is less than 0", y.dividend(0, 1, 1), -1);
        due("none is less than 0", y.dividend(-1, 1, 1), -1);
        Check.begin("promise 21, term 2: all at most 100 together");
        for (int share = 8; share <= 12; share++) {
            PoolsHall x = new PoolsHall();
            x.dividend(60, 30, 1);
            x.dividend(50, 30, 1);
            x.dividend(40, 30, 1);
            due("dividend(30, " + share + ", 1) behind 90", x.dividend(30, share, 1), share <= 10 ? 3 : -1);
            due("count(2)", x.count(2), share <= 10 ? 4 : 3);
        }
    }

    private static void dividendNumbers() {
        Check.begin("promise 21: its number; at most 4");
        PoolsHall x = new PoolsHall();
        for (int round = 0; round < 2; round++) {
            for (int i = 0; i < 4; i++) {
                due("refused", x.dividend(91, 1, 1), -1);
                due("dividend", x.dividend(90 - i, 25, 1 + i), i);
            }
            due("a fifth", x.dividend(1, 0, 1), -1);
            due("count(2)", x.count(2), 4);
            for (int i = 0; i < 4; i++) {
                due("divided(" + i + ", 0)", x.divided(i, 0), 90 - i);
                due("divided(" + i + ", 2)", x.divided(i, 2), 1 + i);
            }
            due("divided(4, 0)", x.divided(4, 0), -1);
            due("repeal()", x.repeal(), 4);
        }
    }

    private static void repealEdges() {
        Check.begin("promise 22: all DIVIDENDS go, what they CARRY is the HALL's");
        for (int n = 0; n <= 4; n++) {
            PoolsHall x = new PoolsHall();
            x.house(0, 0);
            for (int i = 0; i < n; i++) {
                x.dividend(90 - i, 25, 1);
            }
            Check.panelAll(x, 0);
            Check.bet(x, "0", 100, 1);
            due("settle()", x.settle(), 0);
            due("count(4)", x.count(4), 100 - 25 * n);
            due("count(6)", x.count(6), 25 * n);
            due("repeal() of " + n, x.repeal(), n);
            due("count(4)", x.count(4), 100);
            due("count(6)", x.count(6), 0);
            due("count(2)", x.count(2), 0);
            due("repeal() of none", x.repeal(), 0);
            due("count(4)", x.count(4), 100);
        }
    }

    private static void settleWithoutAnOutcome() {
        Check.begin("promise 23: refused: a MATCH has no OUTCOME");
        for (int m = 0; m < 14; m++) {
            PoolsHall x = new PoolsHall();
            Check.bet(x, "0", 10, 1);
            Check.panelAll(x, 2);
            x.panel(m, -1);
            due("settle() without " + m, x.settle(), -1);
            due("count(0)", x.count(0), 0);
            due("count(1)", x.count(1), 1);
            due("count(4)", x.count(4), 0);
            due("count(8)", x.count(8), 13);
            due("prize(0, -1)", x.prize(0, -1), -1);
            due("undo()", x.undo(), -1);
            x.score(m, 20, 20);
            due("settle() with all", x.settle(), 0);
            due("count(0)", x.count(0), 1);
            due("count(8)", x.count(8), 0);
            due("settle() of the next week", x.settle(), -1);
            due("count(0)", x.count(0), 1);
        }
    }

    private static void hallIsCutDown() {
        Check.begin("term 2: less HALL of a hundred of them (that is cut down)");
        int[][] due = {{1, 0, 0}, {1, 99, 0}, {1, 100, 1}, {99, 1, 0}, {100, 1, 1}, {101, 1, 1}, {199, 1, 1}, {200, 1, 2},
            {3, 33, 0}, {4, 33, 1}, {100, 99, 99}, {100, 100, 100}, {1999, 50, 999}};
        for (int[] d : due) {
            PoolsHall x = new PoolsHall();
            x.house(0, d[1]);
            x.dividend(90, 100, 1);
            Check.panelAll(x, 0);
            lose(x, d[0]);
            due("settle()", x.settle(), 0);
            due("the hall's " + d[1] + " of " + d[0], x.count(4), d[2]);
            due("the pool", x.count(6), d[0] - d[2]);
        }
    }

    private static void shareIsCutDown() {
        Check.begin("term 2: each DIVIDEND has SHARE of a hundred of the POOL (cut down)");
        int[][] due = {{99, 1, 0}, {100, 1, 1}, {101, 1, 1}, {1, 99, 0}, {1, 100, 1}, {199, 1, 1}, {200, 1, 2}, {50, 33, 16}, {700, 0, 0}};
        for (int[] d : due) {
            PoolsHall x = new PoolsHall();
            x.house(0, 0);
            x.dividend(90, d[1], 1);
            Check.panelAll(x, 0);
            lose(x, d[0]);
            due("settle()", x.settle(), 0);
            due(d[1] + " of " + d[0], x.divided(0, 3), d[2]);
            due("the rest is the hall's", x.count(4), d[0] - d[2]);
        }
        PoolsHall x = new PoolsHall();
        x.house(0, 0);
        for (int i = 0; i < 4; i++) {
            x.dividend(90 - i, 25, 1);
        }
        Check.panelAll(x, 0);
        lose(x, 7);
        due("settle()", x.settle(), 0);
        for (int i = 0; i < 4; i++) {
            due("each by itself", x.divided(i, 3), 1);
        }
        due("what is in no dividend is the hall's", x.count(4), 3);
    }

    private static void coinIsCutDown() {
        Check.begin("term 2: what all has by WINNERS, cut down");
        dueCoin(100, 100, 1, 1000000, 1);
        dueCoin(199, 100, 1, 1000000, 1);
        dueCoin(200, 100, 1, 1000000, 2);
        dueCoin(201, 100, 1, 1000000, 2);
        dueCoin(8, 3, 1, 1000000, 2);
        dueCoin(9, 3, 1, 1000000, 3);
        PoolsHall x = won(100, 100, 1, 1, 1000000);
        x.repeal();
        x.dividend(ALL_AT_TWO, 99, 1000000);
        due("settle() with one too few", x.settle(), 0);
        due("divided(0, 3)", x.divided(0, 3), 99);
        due("divided(0, 4)", x.divided(0, 4), 100);
        due("divided(0, 5)", x.divided(0, 5), 0);
        due("prize(0, -1)", x.prize(0, -1), 0);
    }

    private static void unitEdges() {
        Check.begin("term 2: cut down to a multiple of UNIT");
        int[][] due = {{9, 0}, {10, 10}, {11, 10}, {19, 10}, {20, 20}, {21, 20}};
        for (int[] d : due) {
            dueCoin(d[0], 1, 10, 1000000, d[1]);
            dueCoin(d[0] * 7 + 6, 7, 10, 1000000, d[1]);
        }
        dueCoin(999, 1, 1000, 1000000, 0);
        dueCoin(1000, 1, 1000, 1000000, 1000);
        dueCoin(1999, 1, 1000, 1000000, 1000);
        dueCoin(2000, 1, 1000, 1000000, 2000);
        dueCoin(1999, 2, 1000, 1000000, 0);
        dueCoin(2000, 2, 1000, 1000000, 1000);
    }

    private static void ceilingEdges() {
        Check.begin("term 2: at most CEILING; what is left it CARRIES");
        dueCoin(50, 10, 1, 4, 4);
        dueCoin(50, 10, 1, 5, 5);
        dueCoin(50, 10, 1, 6, 5);
        dueCoin(59, 10, 1, 5, 5);
        dueCoin(60, 10, 1, 5, 5);
        dueCoin(60, 10, 1, 1, 1);
        dueCoin(10, 10, 1, 1, 1);
        Check.begin("term 2: a multiple of UNIT, at most CEILING, which need be none");
        dueCoin(110, 10, 5, 7, 7);
        dueCoin(110, 10, 5, 9, 9);
        dueCoin(110, 10, 5, 10, 10);
        dueCoin(110, 10, 5, 11, 10);
        dueCoin(90, 10, 5, 7, 5);
        dueCoin(40, 10, 5, 3, 0);
        dueCoin(1000, 1, 1000, 1, 1);
    }

    private static void greatestCeiling() {
        Check.begin("term 2: CEILING (.. 1000000)");
        // 3432 lines at 100 a line make more than the greatest ceiling in three weeks.
        PoolsHall x = new PoolsHall();
        x.house(0, 0);
        x.dividend(ALL_AT_TWO, 100, 1000000);
        long carried = 0;
        for (int week = 0; week < 3; week++) {
            Check.panelAll(x, 0);
            Check.bet(x, "7:" + ALL, 100, 1);
            carried += 343200;
            due("settle()", x.settle(), 0);
            due("divided(0, 3)", x.divided(0, 3), carried);
        }
        Check.panelAll(x, 0);
        Check.bet(x, ALL, 1, 9);
        due("settle()", x.settle(), 1000000);
        due("divided(0, 5)", x.divided(0, 5), 1000000);
        due("divided(0, 3)", x.divided(0, 3), 29601);
        due("prize(0, 0)", x.prize(0, 0), 111112);
        due("prize(0, 8)", x.prize(0, 8), 111111);
    }

    private static void noWinners() {
        Check.begin("term 2: without any it CARRIES all");
        PoolsHall x = won(100, 1, 1, 1, 1000000);
        x.panel(13, 1);
        x.points(1, 1);
        due("settle() with all a point too few", x.settle(), 0);
        due("divided(0, 3)", x.divided(0, 3), 100);
        due("divided(0, 4)", x.divided(0, 4), 0);
        due("divided(0, 5)", x.divided(0, 5), 0);
        due("prize(0, -1)", x.prize(0, -1), 0);
        due("count(4)", x.count(4), 0);
        Check.panelAll(x, 0);
        Check.bet(x, ALL, 1, 1);
        due("the next week has it, too", x.settle(), 101);
        due("divided(0, 3)", x.divided(0, 3), 0);
        due("divided(0, 4)", x.divided(0, 4), 1);
        due("divided(0, 5)", x.divided(0, 5), 101);
    }

    private static void oneCoin() {
        Check.begin("term 2: the least week: a line, a coin");
        dueCoin(1, 1, 1, 1, 1);
        PoolsHall x = won(1, 1, 1, 1, 1);
        due("settle()", x.settle(), 1);
        due("prize(0, -1)", x.prize(0, -1), 1);
        due("prize(0, 0)", x.prize(0, 0), 1);
        due("prize(0, 1)", x.prize(0, 1), -1);
    }

    /** A text of the one line of the first so many matches. */
    private static String firstMatches(int size) {
        if (size == 0) {
            return "0:0";
        }
        return size == 14 ? ALL : ALL.substring(0, ALL.indexOf("." + size));
    }

    private static void leastPoints() {
        Check.begin("term 2: WINNERS: with its LEAST POINTS or more, and less than the one's ahead");
        for (int points = 0; points <= 28; points += 2) {
            PoolsHall x = new PoolsHall();
            x.dividend(20, 25, 1);
            x.dividend(11, 25, 1);
            x.dividend(10, 25, 1);
            x.dividend(1, 25, 1);
            Check.panelAll(x, 0);
            Check.bet(x, firstMatches(points / 2), 3, 1);
            due("best(0)", x.best(0), points);
            x.settle();
            due("divided(0, 4) at " + points, x.divided(0, 4), points >= 20 ? 3 : 0);
            due("divided(1, 4) at " + points, x.divided(1, 4), points >= 11 && points < 20 ? 3 : 0);
            due("divided(2, 4) at " + points, x.divided(2, 4), points == 10 ? 3 : 0);
            due("divided(3, 4) at " + points, x.divided(3, 4), points >= 1 && points < 10 ? 3 : 0);
        }
    }

    private static void leastNinety() {
        Check.begin("term 2: LEAST POINTS .. 90, and lines of more");
        PoolsHall x = new PoolsHall();
        x.points(0, 9);
        x.points(1, 8);
        x.house(0, 0);
        x.dividend(90, 50, 1000000);
        x.dividend(89, 50, 1000000);
        Check.panelAll(x, 0);
        x.panel(10, 1);
        // 125, 90, 89 and 81 points.
        Check.bet(x, ALL, 1, 1);
        Check.bet(x, "0.1.2.3.4.5.6.7.8.9", 2, 1);
        Check.bet(x, "0.1.2.3.4.5.6.7.8.10", 4, 1);
        Check.bet(x, "0.1.2.3.4.5.6.7.8", 11, 1);
        due("settle()", x.settle(), 9 + 8);
        due("divided(0, 4)", x.divided(0, 4), 3);
        due("divided(0, 5)", x.divided(0, 5), 3);
        due("divided(1, 4)", x.divided(1, 4), 4);
        due("divided(1, 5)", x.divided(1, 5), 2);
        long[] prizes = {3, 6, 8, 0};
        for (int c = 0; c < 4; c++) {
            due("prize(" + c + ", -1)", x.prize(c, -1), prizes[c]);
        }
    }

    private static void leastNought() {
        Check.begin("term 2: LEAST POINTS 0 ..: each line wins, one of no MATCH, too");
        PoolsHall x = new PoolsHall();
        x.house(0, 0);
        x.dividend(0, 100, 1000000);
        Check.panelAll(x, 0);
        Check.bet(x, "0:0", 5, 1);
        Check.bet(x, ALL + "|0", 10, 1);
        Check.bet(x, "0-0", 100, 1);
        due("settle()", x.settle(), 25);
        due("divided(0, 4)", x.divided(0, 4), 25);
        due("prize(0, -1)", x.prize(0, -1), 5);
        due("prize(1, -1)", x.prize(1, -1), 20);
        due("prize(2, -1) without lines", x.prize(2, -1), 0);
    }

    private static void voidCoupons() {
        Check.begin("term 2: all STAKES, and lines, of COUPONS that are not VOID");
        PoolsHall x = new PoolsHall();
        x.house(0, 0);
        x.dividend(2, 100, 1000000);
        Check.panelAll(x, 0);
        Check.bet(x, "0", 10, 1);
        Check.bet(x, "0", 20, 2);
        x.tear(0, true);
        due("settle()", x.settle(), 20);
        due("divided(0, 4)", x.divided(0, 4), 20);
        due("prize(0, -1)", x.prize(0, -1), 0);
        due("prize(0, 0)", x.prize(0, 0), 0);
        due("prize(1, -1)", x.prize(1, -1), 20);
        x.undo();
        x.tear(1, true);
        due("settle() with all void", x.settle(), 0);
        due("count(4)", x.count(4), 0);
        due("count(6)", x.count(6), 0);
        due("divided(0, 4)", x.divided(0, 4), 0);
        due("prize(1, 1)", x.prize(1, 1), 0);
        x.undo();
        x.tear(0, false);
        x.tear(1, false);
        due("settle() with none void", x.settle(), 30);
        due("prize(0, -1)", x.prize(0, -1), 10);
    }

    private static void withoutDividends() {
        Check.begin("term 2: what is neither in DIVIDENDS nor paid is the HALL's, without DIVIDENDS");
        PoolsHall x = new PoolsHall();
        Check.panelAll(x, 0);
        Check.bet(x, ALL, 77, 1);
        due("settle()", x.settle(), 0);
        due("count(4)", x.count(4), 77);
        due("count(5)", x.count(5), 0);
        due("count(6)", x.count(6), 0);
        due("prize(0, -1)", x.prize(0, -1), 0);
    }

    private static void withoutCoupons() {
        Check.begin("promise 23: a week without COUPONS");
        PoolsHall x = won(7, 2, 1, 1, 1);
        due("settle()", x.settle(), 2);
        due("divided(0, 3)", x.divided(0, 3), 5);
        Check.panelAll(x, 0);
        due("settle() without coupons", x.settle(), 0);
        due("divided(0, 3) stays", x.divided(0, 3), 5);
        due("divided(0, 4)", x.divided(0, 4), 0);
        due("divided(0, 5)", x.divided(0, 5), 0);
        due("count(0)", x.count(0), 2);
        due("count(5)", x.count(5), 2);
        due("prize(0, -1)", x.prize(0, -1), -1);
    }

    private static void weeksAddUp() {
        Check.begin("promise 24: money so far, over weeks");
        PoolsHall x = new PoolsHall();
        x.house(0, 10);
        x.dividend(2, 50, 3);
        for (int week = 1; week <= 3; week++) {
            Check.panelAll(x, 0);
            Check.bet(x, "0", 10, 1);
            Check.bet(x, "0:0", 90, 1);
            // Of 100 the hall has 10 and half of the rest; of the other half 30 are paid and 15 carried.
            due("settle()", x.settle(), 30);
            due("count(0)", x.count(0), week);
            due("count(4)", x.count(4), 55 * week);
            due("count(5)", x.count(5), 30 * week);
            due("count(6)", x.count(6), 15 * week);
        }
        due("undo()", x.undo(), 2);
        due("count(4)", x.count(4), 110);
        due("count(5)", x.count(5), 60);
        due("count(6)", x.count(6), 30);
    }

    private static void newDividendBehindSettle() {
        Check.begin("promises 21 and 25: a new DIVIDEND CARRIES nothing, and had no WINNERS");
        PoolsHall x = won(25, 10, 1, 1, 1);
        due("settle()", x.settle(), 10);
        due("divided(0, 3)", x.divided(0, 3), 15);
        due("divided(0, 4)", x.divided(0, 4), 10);
        due("divided(0, 5)", x.divided(0, 5), 1);
        x.repeal();
        due("dividend", x.dividend(3, 1, 1), 0);
        due("divided(0, 3)", x.divided(0, 3), 0);
        due("divided(0, 4)", x.divided(0, 4), 0);
        due("divided(0, 5)", x.divided(0, 5), 0);
        due("count(6)", x.count(6), 0);
        due("count(4)", x.count(4), 15);
    }

    private static void dividedEdges() {
        Check.begin("promise 25: NONE: no such DIVIDEND, another what; both 0 ahead of any");
        PoolsHall x = new PoolsHall();
        for (int n = 0; n <= 4; n++) {
            for (int what = -1; what <= 6; what++) {
                boolean is = n > 0 && what >= 0 && what <= 5;
                long[] due = {91 - n, n, 10 * n, 0, 0, 0};
                due("divided(" + (n - 1) + ", " + what + ")", x.divided(n - 1, what), is ? due[what] : -1);
                due("divided(" + n + ", " + what + ")", x.divided(n, what), -1);
                due("divided(-1, " + what + ")", x.divided(-1, what), -1);
            }
            x.dividend(90 - n, n + 1, 10 * n + 10);
        }
    }

    private static void partEdges() {
        Check.begin("promise 26, term 2: PRIZE by PARTS, cut down, the first one what is left, too");
        for (int parts = 1; parts <= 9; parts++) {
            for (int prize = 1; prize <= 20; prize++) {
                PoolsHall x = won(prize, 1, parts, 1, 1000000);
                due("settle()", x.settle(), prize);
                due("prize(0, -1)", x.prize(0, -1), prize);
                due("prize(0, 0)", x.prize(0, 0), prize / parts + prize % parts);
                for (int part = 1; part < parts; part++) {
                    due("prize(0, " + part + ")", x.prize(0, part), prize / parts);
                }
                due("prize(0, " + parts + ")", x.prize(0, parts), -1);
                due("prize(0, -2)", x.prize(0, -2), -1);
            }
        }
    }

    /** Twenty coupons that win twice their price each: number n has the price n + 1 and n % 9 + 1 parts. */
    private static PoolsHall twentyThatWin() {
        PoolsHall x = new PoolsHall();
        x.house(0, 0);
        x.dividend(4, 100, 2);
        for (int n = 0; n < 20; n++) {
            due("coupon", Check.bet(x, "0.1|2", n + 1, n % 9 + 1), n);
        }
        Check.panelAll(x, 0);
        return x;
    }

    private static void prizesOfTwenty() {
        Check.begin("promise 26: the last of 20 COUPONS, and none behind it");
        PoolsHall x = twentyThatWin();
        for (int c = 0; c <= 20; c++) {
            due("prize(" + c + ", -1) ahead of any", x.prize(c, -1), -1);
        }
        due("settle()", x.settle(), 420);
        for (int c = 0; c < 20; c++) {
            int parts = c % 9 + 1;
            due("prize(" + c + ", -1)", x.prize(c, -1), 2 * c + 2);
            due("prize(" + c + ", 0)", x.prize(c, 0), (2 * c + 2) / parts + (2 * c + 2) % parts);
            due("prize(" + c + ", " + (parts - 1) + ")", x.prize(c, parts - 1), parts == 1 ? 2 * c + 2 : (2 * c + 2) / parts);
            due("prize(" + c + ", " + parts + ")", x.prize(c, parts), -1);
        }
        due("prize(20, -1)", x.prize(20, -1), -1);
        due("prize(20, 0)", x.prize(20, 0), -1);
        due("prize(-1, -1)", x.prize(-1, -1), -1);
    }

    private static void prizesOfTheLatest() {
        Check.begin("promise 26: of the latest settle(): there was no such COUPON");
        PoolsHall x = twentyThatWin();
        x.settle();
        Check.panelAll(x, 0);
        Check.bet(x, "13", 6, 1);
        Check.bet(x, "0.1", 5, 9);
        due("prize(19, -1) ahead of the next", x.prize(19, -1), 40);
        due("settle()", x.settle(), 10);
        due("prize(0, -1)", x.prize(0, -1), 0);
        due("prize(0, 0)", x.prize(0, 0), 0);
        due("prize(0, 1)", x.prize(0, 1), -1);
        due("prize(1, -1)", x.prize(1, -1), 10);
        due("prize(1, 0)", x.prize(1, 0), 2);
        due("prize(1, 8)", x.prize(1, 8), 1);
        due("prize(2, -1)", x.prize(2, -1), -1);
        due("prize(2, 0)", x.prize(2, 0), -1);
        due("prize(19, -1)", x.prize(19, -1), -1);
    }

    private static void countEdges() {
        Check.begin("promise 24: all places taken; NONE for another what");
        PoolsHall x = twentyThatWin();
        for (int i = 0; i < 10; i++) {
            x.feed(0, 0, 0, 0, 0);
        }
        x.dividend(3, 0, 1);
        x.dividend(2, 0, 1);
        x.dividend(1, 0, 1);
        long[] due = {0, 20, 4, 420, 0, 0, 0, 200, 14};
        for (int what = -1; what <= 9; what++) {
            due("count(" + what + ")", x.count(what), what >= 0 && what <= 8 ? due[what] : -1);
        }
        x.settle();
        long[] then = {1, 0, 4, 0, 0, 420, 0, 200, 0};
        for (int what = -1; what <= 9; what++) {
            due("count(" + what + ") then", x.count(what), what >= 0 && what <= 8 ? then[what] : -1);
        }
    }

    private static void undoOfTheFirst() {
        Check.begin("promise 27: NONE: there was none since the constructor that was not taken back");
        PoolsHall x = won(25, 10, 3, 1, 1);
        due("undo() ahead of any", x.undo(), -1);
        due("count(1)", x.count(1), 2);
        due("settle()", x.settle(), 10);
        due("undo()", x.undo(), 0);
        due("undo() again", x.undo(), -1);
        due("prize(0, -1): as ahead of it", x.prize(0, -1), -1);
        due("divided(0, 3)", x.divided(0, 3), 0);
        due("divided(0, 4)", x.divided(0, 4), 0);
        due("divided(0, 5)", x.divided(0, 5), 0);
        due("count(0)", x.count(0), 0);
        due("count(1)", x.count(1), 2);
        due("count(5)", x.count(5), 0);
        due("count(8)", x.count(8), 14);
        due("settle() once more", x.settle(), 10);
        due("undo() once more", x.undo(), 0);
        due("undo() again", x.undo(), -1);
    }

    private static void undoTwice() {
        Check.begin("promise 27: two one behind the other never");
        PoolsHall x = new PoolsHall();
        for (int week = 0; week < 3; week++) {
            Check.panelAll(x, week);
            due("settle()", x.settle(), 0);
        }
        due("undo()", x.undo(), 2);
        due("undo() again", x.undo(), -1);
        due("count(0)", x.count(0), 2);
        due("outcome(0)", x.outcome(0), 2);
        x.panel(0, -1);
        due("a settle() that is refused", x.settle(), -1);
        due("undo() behind that", x.undo(), -1);
        x.panel(0, 3);
        due("settle()", x.settle(), 0);
        due("a settle() that is refused", x.settle(), -1);
        due("undo()", x.undo(), 2);
        due("outcome(0)", x.outcome(0), 3);
        due("undo() again", x.undo(), -1);
    }

    private static void undoOfAllPlaces() {
        Check.begin("promise 27: COUPONS, SCORES, PANELS as ahead of it, with all places taken");
        PoolsHall x = twentyThatWin();
        x.tear(18, true);
        x.score(13, 0, 20);
        x.settle();
        for (int n = 0; n < 20; n++) {
            due("coupon of the next week", Check.bet(x, "13", 1, 1), n);
        }
        x.tear(19, true);
        x.panel(12, 2);
        due("undo()", x.undo(), 0);
        for (int n = 0; n < 20; n++) {
            due("told(" + n + ", 0)", Check.told(x, n, 0), 2);
            due("told(" + n + ", 2)", Check.told(x, n, 2), n == 18 ? 1 : 0);
            due("told(" + n + ", 3)", Check.told(x, n, 3), n + 1);
            due("told(" + n + ", 4)", Check.told(x, n, 4), n % 9 + 1);
            due("line(" + n + ", 1)", x.line(n, 1), 4);
        }
        for (int m = 0; m < 14; m++) {
            due("outcome(" + m + ")", x.outcome(m), m == 13 ? 1 : 0);
        }
        due("count(1)", x.count(1), 20);
        due("count(3)", x.count(3), 2 * 210 - 38);
        due("one more is refused again", Check.bet(x, "0"), -1);
    }

    private static void undoOfDividends() {
        Check.begin("promise 27: DIVIDENDS (with what they CARRY), and all money, as ahead of it");
        PoolsHall x = new PoolsHall();
        x.house(0, 0);
        x.house(1, 5);
        for (int i = 0; i < 4; i++) {
            x.dividend(8 - 2 * i, 10 + i, 100 + i);
        }
        long[][] told = new long[4][6];
        for (int week = 0; week < 2; week++) {
            Check.panelAll(x, 0);
            Check.bet(x, "0.1.2.3|0.1.2|0.1|0", 1 + week, 1);
            Check.bet(x, "0:0", 100, 1);
            for (int i = 0; i < 24; i++) {
                told[i / 6][i % 6] = x.divided(i / 6, i % 6);
            }
            due("settle() pays", x.settle() > 0, true);
        }
        due("there was something to tell", told[3][3] > 0 && told[3][4] == 1 && told[3][5] > 0, true);
        x.repeal();
        for (int i = 0; i < 4; i++) {
            x.dividend(90 - i, 1, 1);
        }
        due("undo()", x.undo(), 1);
        for (int i = 0; i < 24; i++) {
            due("divided(" + i / 6 + ", " + i % 6 + ")", x.divided(i / 6, i % 6), told[i / 6][i % 6]);
        }
        due("count(2)", x.count(2), 4);
        due("count(4) and what else there is", x.count(4) + x.count(5) + x.count(6), 104);
        x.settle();
        x.repeal();
        due("undo() with none there", x.undo(), 1);
        due("count(2)", x.count(2), 4);
        due("divided(3, 2)", x.divided(3, 2), 103);
    }

    private static void undoOfPrizes() {
        Check.begin("promise 27: what prize() tells, as ahead of it");
        PoolsHall x = twentyThatWin();
        due("settle()", x.settle(), 420);
        Check.panelAll(x, 0);
        Check.bet(x, "13", 7, 1);
        x.settle();
        due("prize(19, -1)", x.prize(19, -1), -1);
        due("undo()", x.undo(), 1);
        for (int c = 0; c < 20; c++) {
            int parts = c % 9 + 1;
            due("prize(" + c + ", -1)", x.prize(c, -1), 2 * c + 2);
            due("prize(" + c + ", " + (parts - 1) + ")", x.prize(c, parts - 1), parts == 1 ? 2 * c + 2 : (2 * c + 2) / parts);
            due("prize(" + c + ", " + parts + ")", x.prize(c, parts), -1);
        }
        due("prize(20, -1)", x.prize(20, -1), -1);
    }

    private static void everyCoin() {
        Check.begin("every coin accounted for");
        Random random = new Random(7);
        for (int run = 0; run < 200; run++) {
            PoolsHall x = new PoolsHall();
            x.house(0, random.nextInt(101));
            x.house(1, 1 + random.nextInt(12));
            int dividends = random.nextInt(5);
            for (int i = 0; i < dividends; i++) {
                x.dividend(12 - 3 * i, random.nextInt(26), 1 + random.nextInt(40));
            }
            long staked = 0;
            for (int week = 0; week < 4; week++) {
                Check.panelAll(x, random.nextInt(4));
                Check.bet(x, "1:0.1.2+1:2.3.4", 1 + random.nextInt(100), 1 + random.nextInt(9));
                Check.bet(x, "0.1.2|5|0:0", 1 + random.nextInt(100), 1 + random.nextInt(9));
                Check.bet(x, "9", 1 + random.nextInt(100), 1);
                x.tear(random.nextInt(6), true);
                staked += x.count(3);
                long parts = -x.settle();
                for (int c = 0; c < 3; c++) {
                    for (int part = 0; x.prize(c, part) >= 0; part++) {
                        parts += x.prize(c, part);
                    }
                }
                due("all parts together are what is paid", parts, 0);
                if (random.nextInt(4) == 0) {
                    x.repeal();
                }
                due("all money together is what was staked", x.count(4) + x.count(5) + x.count(6), staked);
            }
        }
    }
}
