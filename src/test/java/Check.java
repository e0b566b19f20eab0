/** What the tests share: answers held against those that are due, and texts put on the tape. */
final class Check {
    private static int asked = 0;
    private static int wrong = 0;
    private static String section = "";

    private Check() {
    }

    static void begin(String name) {
        section = name;
    }

    static void due(String call, long got, long want) {
        asked++;
        if (got != want) {
            wrong++;
            System.out.println(section + ": " + call + " answered " + got + ", due is " + want);
        }
    }

    static void due(String call, boolean got, boolean want) {
        due(call, got ? 1L : 0L, want ? 1L : 0L);
    }

    static boolean anyWrong() {
        return wrong != 0;
    }

    static void finish() {
        System.out.println(asked + " answers asked, " + wrong + " not as due");
        if (wrong != 0) {
            System.exit(1);
        }
    }

    /** The five numbers of feed() that begin with a text's bytes from a place on. */
    static int[] numbersOf(String text, int from) {
        int[] numbers = new int[5];
        for (int i = 0; i < 20; i++) {
            int at = from + i;
            int b = at < text.length() ? text.charAt(at) & 255 : 0;
            numbers[i / 4] |= b << (24 - 8 * (i % 4));
        }
        return numbers;
    }

    /** Puts a text alone on the tape. */
    static void put(PoolsHall x, String text) {
        x.end(0);
        for (int from = 0; from < text.length(); from += 20) {
            int[] n = numbersOf(text, from);
            x.feed(n[0], n[1], n[2], n[3], n[4]);
        }
        due("end(" + text.length() + ")", x.end(text.length()), true);
    }

    static int bet(PoolsHall x, String text, int price, int parts) {
        put(x, text);
        return x.coupon(price, parts);
    }

    static int bet(PoolsHall x, String text) {
        return bet(x, text, 1, 1);
    }

    /** told(), or -99 where it throws NoSuchElementException. */
    static long told(PoolsHall x, int coupon, int what) {
        try {
            return x.told(coupon, what);
        } catch (java.util.NoSuchElementException e) {
            return -99;
        }
    }
}
