/** What the tests share: answers held against those that are due, and texts put on the tape. */
final class Check {
    static final String ALL = "0.1.2.3.4.5.6.7.8.9.10.11.12.13";
    /** What told() of this class answers where PoolsHall throws. */
    static final int THROWN = -99;

    private static int asked = 0;
    private static int wrong = 0;
    private static String section = "";

    private Check() {
    }

    static void begin(String name) {
        section = name;
    }

    static void due(String call, long got, long want) {
        asked++;
        if (got != want) {
            wrong++;
            System.out.println(section + ": " + call + " answered " + got + ", due is " + want);
        }
    }

    static void due(String call, boolean got, boolean want) {
        due(call, got ? 1L : 0L, want ? 1L : 0L);
    }

    static boolean anyWrong() {
        return wrong != 0;
    }

    static void finish() {
        System.out.println(asked + " answers asked, " + wrong + " not as due");
        if (wrong != 0) {
            System.exit(1);
        }
    }

    /** The five numbers of feed() that begin with a text's bytes from a place on. */
    static int[] numbersOf(String text, int from) {
        int[] numbers = new int[5];
        for (int i = 0; i < 20; i++) {
            int at = from + i;
            int b = at < text.length() ? text.charAt(at) & 255 : 0;
            numbers[i / 4] |= b << (24 - 8 * (i % 4));
        }
        return numbers;
    }

    /** Puts a text alone on the tape. */
    static void put(PoolsHall x, String text) {
        x.end(0);
        for (int from = 0; from < text.length(); from += 20) {
            int[] n = numbersOf(text, from);
            x.feed(n[0], n[1], n[2], n[3], n[4]);
        }
        due("end(" + text.length() + ")", x.end(text.length()), true);
    }

    static int bet(PoolsHall x, String text, int price, int parts) {
        put(x, text);
        return x.coupon(price, parts);
    }

    static int bet(PoolsHall x, String text) {
        return bet(x, text, 1, 1);
    }

    /** told(), or THROWN where it throws NoSuchElementException. */
    static long told(PoolsHall x, int coupon, int what) {
        try {
            return x.told(coupon, what);
        } catch (java.util.NoSuchElementException e) {
            return THROWN;
        }
    }

    /** Gives every match the same panel. */
    static void panelAll(PoolsHall x, int outcome) {
        for (int m = 0; m < 14; m++) {
            due("panel(" + m + ", " + outcome + ")", x.panel(m, outcome), true);
        }
    }

    /** A text has a fault of a kind at a place, and is no coupon; or has none (0, 0), and is one. */
    static void dueFault(String text, int kind, int place) {
        PoolsHall x = new PoolsHall();
        int number = bet(x, text);
        due("coupon of " + text, number, kind == 0 ? 0 : -1);
        due("fault(0) of " + text, x.fault(0), kind);
        due("fault(1) of " + text, x.fault(1), place);
        due("tape behind " + text, x.count(7), 0);
        due("coupons behind " + text, x.count(1), kind == 0 ? 1 : 0);
    }

    /** A text means just these lines. */
    static void dueLines(String text, int... numbers) {
        PoolsHall x = new PoolsHall();
        due("coupon of " + text, bet(x, text), 0);
        due("lines of " + text, told(x, 0, 0), numbers.length);
        for (int i = 0; i < numbers.length; i++) {
            due("line " + i + " of " + text, x.line(0, i), numbers[i]);
        }
        due("line behind the last of " + text, x.line(0, numbers.length), -1);
    }
}
