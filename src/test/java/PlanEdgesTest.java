/** The edges of term 1: what a text may hold, where its fault is, and the lines at both ends of what there is. */
public final class PlanEdgesTest {
    private static final String ALL = Check.ALL;
    private static final String EMPTY = "0:0";
    private static final String DIGITS = "0123456789";
    private static final String SIGNS = "+|&-";
    private static final int EVERY = 16383;

    private PlanEdgesTest() {
    }

    public static void main(String[] args) {
        bytesThatBegin();
        bytesBehindNumbers();
        bytesBehindSigns();
        bytesBehindBrackets();
        ends();
        numbersOfMatches();
        numbersOfChoices();
        threeDigits();
        matchesThatStoodAhead();
        choicesAboveMatches();
        firstFaultIsTold();
        seventhOpen();
        longestTexts();
        sizesOfChoices();
        signsAtBothEnds();
        joinedPairs();
        joinedHalves();
        fromTheLeft();
        Check.finish();
    }

    /** Holds every byte behind a text: those of some may stand there, each other one is FAULT 1 at its place. */
    private static void dueBytes(String ahead, String fine, String open) {
        for (int b = 0; b < 256; b++) {
            String text = ahead + (char) b;
            if (fine.indexOf(b) >= 0) {
                Check.dueFault(text, 0, 0);
            } else if (open.indexOf(b) >= 0) {
                Check.dueFault(text, 1, text.length());
            } else {
                Check.dueFault(text, 1, ahead.length());
            }
        }
    }

    private static void bytesThatBegin() {
        Check.begin("term 1: 1 at a byte that can't stand there, as the first one");
        dueBytes("", DIGITS, "(");
    }

    private static void bytesBehindNumbers() {
        Check.begin("term 1: 1 at a byte that can't stand there, behind a number");
        dueBytes("0", DIGITS, ".:" + SIGNS);
        dueBytes("00", "", ".:" + SIGNS);
        dueBytes("13", "", ".:" + SIGNS);
        dueBytes("1:0", DIGITS, "." + SIGNS);
        dueBytes("01:13", "", "." + SIGNS);
        dueBytes("13.0", DIGITS, "." + SIGNS);
        dueBytes("1.13", "", "." + SIGNS);
        dueBytes("1:1.13", "", "." + SIGNS);
    }

    private static void bytesBehindSigns() {
        Check.begin("term 1: 1 at a byte that can't stand there, behind a sign");
        for (int i = 0; i < SIGNS.length(); i++) {
            dueBytes("0" + SIGNS.charAt(i), DIGITS, "(");
        }
        dueBytes("1:", DIGITS, "");
        dueBytes("10.", DIGITS, "");
        dueBytes("1:10.", DIGITS, "");
    }

    private static void bytesBehindBrackets() {
        Check.begin("term 1: 1 at a byte that can't stand there, with brackets");
        dueBytes("(", "", DIGITS + "(");
        dueBytes("(0", ")", DIGITS + ".:" + SIGNS);
        dueBytes("(13", ")", ".:" + SIGNS);
        dueBytes("(1:13", ")", "." + SIGNS);
        dueBytes("(0)", "", SIGNS);
        dueBytes("((0)", ")", SIGNS);
        dueBytes("((0))", "", SIGNS);
    }

    private static void ends() {
        Check.begin("term 1: 1 at the end, where it can't be");
        String[] texts = {"", "(", "((((((", "0|", "0&", "0-", "0+", "0.", "1:", "99:", "1:0.", "(0", "(0|", "(0)+", "((0)", "0|(", "13:"};
        for (String text : texts) {
            Check.dueFault(text, 1, text.length());
        }
    }

    private static void numbersOfMatches() {
        Check.begin("term 1: 2 at the first byte of an M above 13");
        for (int m = 0; m < 100; m++) {
            String two = "" + m / 10 + m % 10;
            if (m < 14) {
                Check.dueLines(two, 1 << m);
                Check.dueLines("" + m, 1 << m);
                Check.dueLines("1:" + two, 1 << m);
            } else {
                Check.dueFault(two, 2, 0);
                Check.dueFault("1:" + two, 2, 2);
                Check.dueFault("0." + two, 2, 2);
                Check.dueFault("(5|" + two, 2, 3);
            }
        }
    }

    private static void numbersOfChoices() {
        Check.begin("term 1: 2 at the first byte of its K, if that is above how many Ms it has");
        for (int k = 0; k < 100; k++) {
            String two = "" + k / 10 + k % 10;
            Check.dueFault(two + ":5", k > 1 ? 2 : 0, 0);
            Check.dueFault(two + ":" + ALL, k > 14 ? 2 : 0, 0);
            Check.dueFault("0+" + two + ":1.2", k > 2 ? 2 : 0, k > 2 ? 2 : 0);
        }
        for (int k = 0; k < 10; k++) {
            Check.dueFault(k + ":5.6.7", k > 3 ? 2 : 0, 0);
        }
    }

    private static void threeDigits() {
        Check.begin("term 1: numbers are one or two digits");
        Check.dueFault("000", 1, 2);
        Check.dueFault("013", 1, 2);
        Check.dueFault("0.001", 2, 2);
        Check.dueFault("0.011", 1, 4);
        Check.dueFault("001:5", 1, 2);
        Check.dueFault("100:5", 1, 2);
        Check.dueFault("1:005", 1, 4);
        Check.dueFault("0|012", 1, 4);
    }

    private static void matchesThatStoodAhead() {
        Check.begin("term 1: 2 at the first byte of an M that stood ahead in its PART");
        for (int m = 0; m < 14; m++) {
            Check.dueFault(m + "." + m, 2, m < 10 ? 2 : 3);
            // As the fifteenth M each of them stood ahead.
            Check.dueFault(ALL + "." + m, 2, ALL.length() + 1);
        }
        Check.dueFault("5.6.7.05", 2, 6);
        Check.dueFault("1:5.6.5", 2, 6);
        Check.dueFault("0|5.5", 2, 4);
        Check.dueFault("(5.5", 2, 3);
        Check.dueFault("5.5x", 2, 2);
        Check.begin("term 1: an M of another PART, or a K, stood not ahead in its PART");
        Check.dueFault("5.6|5.6", 0, 0);
        Check.dueFault("5+5", 0, 0);
        Check.dueFault("(5)-5", 0, 0);
        Check.dueFault("1:1.2", 0, 0);
        Check.dueFault("2:2.1", 0, 0);
    }

    private static void choicesAboveMatches() {
        Check.begin("term 1: a PART has been read when its last M has no . behind it");
        Check.dueFault("2:0", 2, 0);
        Check.dueFault("2:0.1", 0, 0);
        Check.dueFault("3:0.1", 2, 0);
        Check.dueFault("2:0.", 1, 4);
        Check.dueFault("2:0..", 1, 4);
        Check.dueFault("2:0.14", 2, 4);
        Check.dueFault("2:0.0", 2, 4);
        Check.dueFault("2:0:", 2, 0);
        Check.dueFault("2:0(", 2, 0);
        Check.dueFault("2:000", 2, 0);
        Check.dueFault("2:0|14", 2, 0);
        Check.dueFault("2:0|x", 2, 0);
        Check.dueFault("1:0|02:5", 2, 4);
        Check.dueFault("(((2:0)))", 2, 3);
    }

    private static void firstFaultIsTold() {
        Check.begin("term 1: FAULT of a text, as it is read from its beginning");
        Check.dueFault("x14", 1, 0);
        Check.dueFault("14|x", 2, 0);
        Check.dueFault("0|)|14", 1, 2);
        Check.dueFault("0|14|)", 2, 2);
        Check.dueFault("14|(((((((0", 2, 0);
        Check.dueFault("(((((((14", 3, 6);
        Check.dueFault("((((((14|(", 2, 6);
        Check.dueFault("0.0.14", 2, 2);
        Check.dueFault("0.14.0", 2, 2);
        Check.dueFault("0|14|15", 2, 2);
    }

    private static void seventhOpen() {
        Check.begin("term 1: 3 at a ( that is the seventh open one");
        Check.dueFault("((((((0))))))", 0, 0);
        Check.dueFault("(((((((0)))))))", 3, 6);
        Check.dueFault("((((((0|(", 3, 8);
        Check.dueFault("((((((0)|(0)+(0)&(0)-(0)))))))", 1, 29);
        Check.dueFault("((((((0)|(0)+(0)&(0)-(0))))))", 0, 0);
        Check.dueFault("((((((0)|((0", 3, 10);
        Check.dueFault("0+((((((0))))))+(((((((0", 3, 22);
        // Many that are closed are not open, however many they are.
        Check.dueFault("(0)" + "|(0)".repeat(49), 0, 0);
        // Where no ( can stand it is no ( that is open.
        Check.dueFault("((((((0(", 1, 7);
        Check.dueFault("((((((0)(", 1, 8);
    }

    private static void longestTexts() {
        Check.begin("term 1: a PLAN is a text of at most 200 bytes");
        String of199 = "0" + "|1".repeat(99);
        Check.dueFault(of199, 0, 0);
        Check.dueFault("0" + of199, 0, 0);
        Check.dueFault(of199 + "x", 1, 199);
        Check.dueFault(of199 + "|", 1, 200);
        String of198 = "0" + "|1".repeat(98) + "|";
        Check.dueFault(of198 + "14", 2, 198);
        Check.dueFault(of198 + "1x", 1, 199);
        Check.dueFault("(0)+0" + "+1".repeat(97) + "|", 1, 200);
        Check.dueFault("(".repeat(200), 3, 6);
        PoolsHall x = new PoolsHall();
        Check.due("the last of 200 bytes is read", Check.bet(x, of198 + "13"), 0);
        Check.due("its last line", x.line(0, 2), 8192);
        Check.due("three lines", Check.told(x, 0, 0), 3);
    }

    private static void sizesOfChoices() {
        Check.begin("term 1: all lines of K of these MATCHES");
        int[] sizes = {1, 14, 91, 364, 1001, 2002, 3003, 3432, 3003, 2002, 1001, 364, 91, 14, 1};
        for (int k = 0; k <= 14; k++) {
            PoolsHall x = new PoolsHall();
            Check.due("coupon", Check.bet(x, k + ":" + ALL), 0);
            Check.due("lines of " + k, Check.told(x, 0, 0), sizes[k]);
            Check.due("its least line", x.line(0, 0), (1 << k) - 1);
            Check.due("its greatest line", x.line(0, sizes[k] - 1), ((1 << k) - 1) << (14 - k));
        }
        Check.dueLines("0:13", 0);
        Check.dueLines("1:13", 8192);
        Check.dueLines("0:" + ALL, 0);
        Check.dueLines("14:" + ALL, EVERY);
        Check.begin("term 1: without K : the one line of all of them");
        Check.dueLines(ALL, EVERY);
        Check.dueLines("13.12.11.10.9.8.7.6.5.4.3.2.1.0", EVERY);
    }

    private static void signsAtBothEnds() {
        Check.begin("term 1: | the lines of both");
        Check.dueLines(EMPTY + "|" + ALL, 0, EVERY);
        Check.dueLines(ALL + "|" + EMPTY, 0, EVERY);
        Check.dueLines("(0-0)|(0-0)");
        Check.dueLines("(0-0)|13", 8192);
        Check.begin("term 1: & those in both");
        Check.dueLines(ALL + "&" + ALL, EVERY);
        Check.dueLines(EMPTY + "&" + EMPTY, 0);
        Check.dueLines(EMPTY + "&" + ALL);
        Check.dueLines(ALL + "&" + EMPTY);
        Check.dueLines("(0-0)&0");
        Check.begin("term 1: - those of the first that are not in the second");
        Check.dueLines(ALL + "-" + ALL);
        Check.dueLines(EMPTY + "-" + EMPTY);
        Check.dueLines(EMPTY + "-" + ALL, 0);
        Check.dueLines(ALL + "-" + EMPTY, EVERY);
        Check.dueLines("(0-0)-0");
        Check.begin("term 1: + with lines of no MATCH, of all, and without lines");
        Check.dueLines(EMPTY + "+" + EMPTY, 0);
        Check.dueLines(EMPTY + "+" + ALL, EVERY);
        Check.dueLines(ALL + "+" + EMPTY, EVERY);
        Check.dueLines(ALL + "+" + ALL);
        Check.dueLines("(0-0)+" + EMPTY);
        Check.dueLines(EMPTY + "+(0-0)");
    }

    private static void joinedPairs() {
        Check.begin("term 1: each line with each line that has no MATCH in common with it, of one MATCH each");
        for (int a = 0; a < 14; a++) {
            Check.dueLines(ALL + "+" + a);
            Check.dueLines(a + "+" + ALL);
            for (int b = 0; b < 14; b++) {
                if (a == b) {
                    Check.dueLines(a + "+" + b);
                } else {
                    Check.dueLines(a + "+" + b, (1 << a) + (1 << b));
                    Check.dueLines(a + "." + b + "+" + a);
                    Check.dueLines(a + "+" + a + "." + b);
                }
            }
        }
    }

    private static void joinedHalves() {
        Check.begin("term 1: each line with each line that has no MATCH in common with it, of many MATCHES");
        for (int n = 1; n < 14; n++) {
            int dot = ALL.indexOf("." + n);
            String low = ALL.substring(0, dot);
            String high = ALL.substring(dot + 1);
            Check.dueLines(low + "+" + high, EVERY);
            Check.dueLines(high + "+" + low, EVERY);
            Check.dueLines("(" + low + "|" + high + ")+(" + high + "|" + low + ")", EVERY);
            Check.dueLines("(" + low + "|" + EMPTY + ")+(" + high + "|" + EMPTY + ")", 0, (1 << n) - 1, EVERY - (1 << n) + 1, EVERY);
        }
    }

    private static void fromTheLeft() {
        Check.begin("term 1: from the left");
        // In each of these the signs from the right would leave other lines.
        Check.dueLines("0|1&1", 2);
        Check.dueLines("0|1-0", 2);
        Check.dueLines("0&1|2", 4);
        Check.dueLines("0-0|0", 1);
        Check.dueLines("0-1&2");
        Check.dueLines("0-0-0");
        Check.dueLines("0|(1&1)", 1, 2);
        Check.dueLines("0|(1-0)", 1, 2);
        Check.dueLines("0&(1|2)");
        Check.dueLines("0-(0|0)");
        Check.dueLines("0-(1&2)", 1);
        Check.dueLines("0-(0-0)", 1);
        Check.begin("term 1: a PLAN is made of ALTs, so + goes ahead of the other signs");
        Check.dueLines("0+1|2", 3, 4);
        Check.dueLines("0|1+2", 1, 6);
        Check.dueLines("0+1&0");
        Check.dueLines("0&0+1");
        Check.dueLines("0-0+1", 1);
        Check.dueLines("0+1-0", 3);
        Check.dueLines("(0|1)+2", 5, 6);
        Check.dueLines("1:0.1+1:0.1+1:1.2", 7);
    }
}
