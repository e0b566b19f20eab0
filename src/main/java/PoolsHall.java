import java.util.Arrays;
import java.util.NoSuchElementException;

/**
 * A pools house: coupons whose plans, told as texts, mean sets of lines; the lines are held against
 * the results, and weeks are settled and taken back with every coin accounted for.
 */
public final class PoolsHall {
    public static final int NONE = -1;

    private static final int UNKNOWN = -2;
    private static final int MATCHES = 14;
    private static final int NUMBERS = 16384;
    private static final int OUTCOMES = 4;
    private static final int MOST_GOALS = 20;
    private static final int MOST_POINTS = 9;
    private static final int MOST_BYTES = 200;
    private static final int MOST_COUPONS = 20;
    private static final int MOST_PRICE = 100;
    private static final int MOST_PARTS = 9;
    private static final int MOST_DIVIDENDS = 4;
    private static final int MOST_LEAST = 90;
    private static final int MOST_CEILING = 1000000;
    private static final int MOST_UNIT = 1000;
    private static final int HUNDRED = 100;

    private final Tape tape;
    private final PlanReader reader;
    private final Scale scale;
    private final Books now;
    private final Books earlier;
    private final int[] worth;
    private boolean canUndo;
    private int hall;
    private int unit;

    public PoolsHall() {
        tape = new Tape();
        reader = new PlanReader(tape);
        scale = new Scale();
        now = new Books();
        earlier = new Books();
        worth = new int[] {2, 3, 4, 6};
        canUndo = false;
        hall = 30;
        unit = 1;
    }

    // ---- matches

    public boolean score(int match, int home, int away) {
        if (!isIn(match, 0, MATCHES - 1) || !isIn(home, 0, MOST_GOALS) || !isIn(away, 0, MOST_GOALS)) {
            return false;
        }
        now.outcomes[match] = outcomeOfGoals(home, away);
        return true;
    }

    public boolean panel(int match, int outcome) {
        if (!isIn(match, 0, MATCHES - 1) || !isIn(outcome, NONE, OUTCOMES - 1)) {
            return false;
        }
        now.outcomes[match] = outcome;
        return true;
    }

    public int outcome(int match) {
        return isIn(match, 0, MATCHES - 1) ? now.outcomes[match] : NONE;
    }

    public boolean points(int outcome, int v) {
        if (!isIn(outcome, 0, OUTCOMES - 1) || !isIn(v, 0, MOST_POINTS)) {
            return false;
        }
        worth[outcome] = v;
        return true;
    }

    // ---- coupons

    public int feed(int a, int b, int c, int d, int e) {
        if (!tape.hasRoomForFive()) {
            return NONE;
        }
        tape.append(a);
        tape.append(b);
        tape.append(c);
        tape.append(d);
        tape.append(e);
        return tape.length;
    }

    public boolean end(int n) {
        return tape.cutTo(n);
    }

    public int coupon(int price, int parts) {
        int number = NONE;
        reader.forgetFault();
        if (isIn(price, 1, MOST_PRICE) && isIn(parts, 1, MOST_PARTS) && now.couponsHeld < MOST_COUPONS) {
            LineSet lines = reader.readTape();
            if (lines != null) {
                number = now.addCoupon(new Coupon(lines, price, parts));
            }
        }
        tape.cutTo(0);
        return number;
    }

    public int fault(int what) {
        switch (what) {
            case 0:
                return reader.faultKind;
            case 1:
                return reader.faultPlace;
            default:
                return NONE;
        }
    }

    public boolean tear(int coupon, boolean is) {
        Coupon torn = now.couponAt(coupon);
        if (torn == null) {
            return false;
        }
        torn.isVoid = is;
        return true;
    }

    public int told(int coupon, int what) throws NoSuchElementException {
        Coupon asked = now.couponAt(coupon);
        if (asked == null) {
            throw new NoSuchElementException("no such coupon");
        }
        switch (what) {
            case 0:
                return asked.size;
            case 1:
                return asked.stakeInCoins();
            case 2:
                return asked.isVoid ? 1 : 0;
            case 3:
                return asked.price;
            case 4:
                return asked.parts;
            case 5:
                return asked.lines.matchesInSome();
            case 6:
                return asked.lines.matchesInAll();
            default:
                throw new NoSuchElementException("nothing such is told of a coupon");
        }
    }

    public int line(int coupon, int i) {
        Coupon asked = now.couponAt(coupon);
        return asked == null ? NONE : asked.lines.numberAt(i);
    }

    public int below(int coupon, int number) {
        Coupon asked = now.couponAt(coupon);
        return asked == null || !isIn(number, 0, NUMBERS) ? NONE : asked.lines.sizeUnder(number);
    }

    public int unlike(int a, int b) {
        Coupon first = now.couponAt(a);
        Coupon second = now.couponAt(b);
        return first == null || second == null ? UNKNOWN : first.lines.leastInJustOne(second.lines);
    }

    // ---- results

    public int win(int coupon, int points) {
        Coupon asked = now.couponAt(coupon);
        if (asked == null) {
            return NONE;
        }
        // Behind this test points + 1 can't wrap around.
        if (!isIn(points, 0, Scale.MOST)) {
            return 0;
        }
        weighWithout(0);
        return scale.sizeFrom(asked.lines, points) - scale.sizeFrom(asked.lines, points + 1);
    }

    public int best(int coupon) {
        return greatestPoints(coupon, 0);
    }

    public int still(int coupon) {
        return greatestPoints(coupon, mostWorth());
    }

    public int could(int coupon, int points) {
        return sizeWithPoints(coupon, points, mostWorth());
    }

    public int sure(int coupon, int points) {
        return sizeWithPoints(coupon, points, leastWorth());
    }

    // ---- money

    public int house(int what, int v) {
        int was = UNKNOWN;
        if (what == 0 && isIn(v, 0, HUNDRED)) {
            was = hall;
            hall = v;
        } else if (what == 1 && isIn(v, 1, MOST_UNIT)) {
            was = unit;
            unit = v;
        }
        return was;
    }

    public int dividend(int least, int share, int ceiling) {
        if (!isIn(least, 0, MOST_LEAST) || !isIn(share, 0, HUNDRED) || !isIn(ceiling, 1, MOST_CEILING)) {
            return NONE;
        }
        return now.addDividend(least, share, ceiling);
    }

    public int repeal() {
        return now.dropDividends();
    }

    public long settle() {
        if (now.matchesDecided() < MATCHES) {
            return NONE;
        }
        earlier.copyFrom(now);
        canUndo = true;
        weighWithout(0);
        return now.closeWeek(scale, hall, unit);
    }

    public long count(int what) {
        switch (what) {
            case 0:
                return now.week;
            case 1:
                return now.couponsHeld;
            case 2:
                return now.dividendsHeld;
            case 3:
                return now.stakesInPlay();
            case 4:
                return now.hallMoney;
            case 5:
                return now.paidMoney;
            case 6:
                return now.carriedMoney();
            case 7:
                return tape.length;
            case 8:
                return now.matchesDecided();
            default:
                return NONE;
        }
    }

    public long divided(int dividend, int what) {
        Dividend asked = now.dividendAt(dividend);
        if (asked == null) {
            return NONE;
        }
        switch (what) {
            case 0:
                return asked.least;
            case 1:
                return asked.share;
            case 2:
                return asked.ceiling;
            case 3:
                return asked.carried;
            case 4:
                return asked.winners;
            case 5:
                return asked.coin;
            default:
                return NONE;
        }
    }

    public long prize(int coupon, int part) {
        return now.prizeTold(coupon, part);
    }

    public int undo() {
        if (!canUndo) {
            return NONE;
        }
        canUndo = false;
        now.copyFrom(earlier);
        return now.week;
    }

    // ---- helpers of the face

    private static boolean isIn(int v, int least, int most) {
        return v >= least && v <= most;
    }

    private static int outcomeOfGoals(int home, int away) {
        if (home != away) {
            return home > away ? 0 : 1;
        }
        return home == 0 ? 2 : 3;
    }

    private int mostWorth() {
        int most = 0;
        for (int i = 0; i < OUTCOMES; i++) {
            most = Math.max(most, worth[i]);
        }
        return most;
    }

    private int leastWorth() {
        int least = MOST_POINTS;
        for (int i = 0; i < OUTCOMES; i++) {
            least = Math.min(least, worth[i]);
        }
        return least;
    }

    /** Lets the scale weigh matches without an outcome with so many points. */
    private void weighWithout(int open) {
        scale.weigh(now.outcomes, worth, open);
    }

    private int greatestPoints(int coupon, int open) {
        Coupon asked = now.couponAt(coupon);
        if (asked == null) {
            return NONE;
        }
        weighWithout(open);
        return scale.greatest(asked.lines);
    }

    private int sizeWithPoints(int coupon, int least, int open) {
        Coupon asked = now.couponAt(coupon);
        if (asked == null) {
            return NONE;
        }
        weighWithout(open);
        return scale.sizeFrom(asked.lines, least);
    }

    /** THE TAPE: bytes that will be a plan's text. */
    private static final class Tape {
        static final int PAST_END = -1;

        final int[] bytes;
        int length;

        Tape() {
            bytes = new int[MOST_BYTES];
            length = 0;
        }

        boolean hasRoomForFive() {
            return length <= MOST_BYTES - 20;
        }

        void append(int four) {
            for (int shift = 24; shift >= 0 && length < MOST_BYTES; shift -= 8) {
                bytes[length] = (four >>> shift) & 255;
                length++;
            }
        }

        boolean cutTo(int n) {
            if (n < 0 || n > length) {
                return false;
            }
            length = n;
            return true;
        }

        int byteAt(int i) {
            return i >= 0 && i < length && i < MOST_BYTES ? bytes[i] : PAST_END;
        }
    }

    /**
     * A set of lines, a bit for each NUMBER. The six low matches choose the bit in a word and the
     * eight high ones the word, so that whole words of lines are put together at once.
     */
    private static final class LineSet {
        static final int LOW_MATCHES = 6;
        static final int LOW_NUMBERS = 64;
        static final int WORDS = 256;

        /** For each low match the bits of a word whose lines have it. */
        private static final long[] WITH_MATCH = {
            0xAAAAAAAAAAAAAAAAL, 0xCCCCCCCCCCCCCCCCL, 0xF0F0F0F0F0F0F0F0L,
            0xFF00FF00FF00FF00L, 0xFFFF0000FFFF0000L, 0xFFFFFFFF00000000L
        };

        final long[] words;

        LineSet() {
            words = new long[WORDS];
        }

        void copyFrom(LineSet other) {
            System.arraycopy(other.words, 0, words, 0, WORDS);
        }

        /** All lines of so many of the matches of a mask. */
        void becomeChoices(int mask, int chosen) {
            Arrays.fill(words, 0L);
            int subsets = 1 << Integer.bitCount(mask & (NUMBERS - 1));
            int number = 0;
            for (int i = 0; i < subsets; i++) {
                if (Integer.bitCount(number) == chosen) {
                    words[(number >> LOW_MATCHES) & (WORDS - 1)] |= 1L << (number & (LOW_NUMBERS - 1));
                }
                // The next subset of the mask: the carry runs over the bits outside it.
                number = (number - mask) & mask;
            }
        }

        void addAll(LineSet other) {
            for (int w = 0; w < WORDS; w++) {
                words[w] |= other.words[w];
            }
        }

        void keepCommon(LineSet other) {
            for (int w = 0; w < WORDS; w++) {
                words[w] &= other.words[w];
            }
        }

        void takeAway(LineSet other) {
            for (int w = 0; w < WORDS; w++) {
                words[w] &= ~other.words[w];
            }
        }

        /** Each line of the first with each line of the second that has no match in common with it. */
        void becomeJoined(LineSet first, LineSet second) {
            Arrays.fill(words, 0L);
            // Which of them is the first makes no difference, so the smaller one goes line by line.
            boolean firstIsSmaller = first.sizeOfAll() < second.sizeOfAll();
            LineSet few = firstIsSmaller ? first : second;
            LineSet many = firstIsSmaller ? second : first;
            for (int w = 0; w < WORDS; w++) {
                long rest = few.words[w];
                for (int left = Long.bitCount(rest); left > 0; left--) {
                    addJoined(w, Long.numberOfTrailingZeros(rest), many);
                    rest &= rest - 1;
                }
            }
        }

        /** Numbers without a match in common are put together by a sum, which is a shift of a word. */
        private void addJoined(int high, int low, LineSet many) {
            long apart = wordWithout(low);
            int free = (WORDS - 1) & ~high;
            int subsets = 1 << Integer.bitCount(free);
            int w = 0;
            for (int i = 0; i < subsets; i++) {
                words[(w | high) & (WORDS - 1)] |= (many.words[w] & apart) << low;
                w = (w - free) & free;
            }
        }

        /** The bits of a word whose lines have no low match in common with a number. */
        private static long wordWithout(int number) {
            long apart = -1L;
            for (int m = 0; m < LOW_MATCHES; m++) {
                if (((number >> m) & 1) == 1) {
                    apart &= ~WITH_MATCH[m];
                }
            }
            return apart;
        }

        int sizeOfAll() {
            int size = 0;
            for (int w = 0; w < WORDS; w++) {
                size += Long.bitCount(words[w]);
            }
            return size;
        }

        /** How many lines have a NUMBER below one of 0 .. NUMBERS. */
        int sizeUnder(int number) {
            int whole = Math.min(number >> LOW_MATCHES, WORDS);
            int size = 0;
            for (int w = 0; w < whole; w++) {
                size += Long.bitCount(words[w]);
            }
            int bits = number & (LOW_NUMBERS - 1);
            if (bits != 0 && whole >= 0 && whole < WORDS) {
                size += Long.bitCount(words[whole] & ((1L << bits) - 1));
            }
            return size;
        }

        int numberAt(int i) {
            int left = i;
            for (int w = 0; w < WORDS && left >= 0; w++) {
                int size = Long.bitCount(words[w]);
                if (left < size) {
                    return (w << LOW_MATCHES) | placeOfBit(words[w], left);
                }
                left -= size;
            }
            return NONE;
        }

        private static int placeOfBit(long word, int i) {
            long rest = word;
            for (int n = 0; n < i; n++) {
                rest &= rest - 1;
            }
            return Long.numberOfTrailingZeros(rest);
        }

        int leastInJustOne(LineSet other) {
            for (int w = 0; w < WORDS; w++) {
                long differing = words[w] ^ other.words[w];
                if (differing != 0L) {
                    return (w << LOW_MATCHES) | Long.numberOfTrailingZeros(differing);
                }
            }
            return NONE;
        }

        int matchesInSome() {
            int high = 0;
            for (int w = 0; w < WORDS; w++) {
                high |= words[w] != 0L ? w : 0;
            }
            long low = allWordsAsOne();
            int matches = high << LOW_MATCHES;
            for (int m = 0; m < LOW_MATCHES; m++) {
                matches |= (low & WITH_MATCH[m]) != 0L ? 1 << m : 0;
            }
            return matches;
        }

        int matchesInAll() {
            int high = WORDS - 1;
            for (int w = 0; w < WORDS; w++) {
                high &= words[w] != 0L ? w : WORDS - 1;
            }
            long low = allWordsAsOne();
            int matches = high << LOW_MATCHES;
            for (int m = 0; m < LOW_MATCHES; m++) {
                matches |= (low & ~WITH_MATCH[m]) == 0L ? 1 << m : 0;
            }
            return matches;
        }

        private long allWordsAsOne() {
            long all = 0L;
            for (int w = 0; w < WORDS; w++) {
                all |= words[w];
            }
            return all;
        }
    }

    /**
     * Reads a plan from the tape, from the left, and works its lines out on a stack of sets while
     * reading. The sets are made when they are first needed and used again for each plan.
     */
    private static final class PlanReader {
        private static final int WRONG_BYTE = 1;
        private static final int WRONG_NUMBER = 2;
        private static final int TOO_DEEP = 3;
        private static final int MOST_OPEN = 6;
        /** Two sets wait at each of the seven depths while a part is read as one more. */
        private static final int MOST_SETS = 15;

        int faultKind;
        int faultPlace;
        private final Tape tape;
        private final LineSet[] sets;
        private LineSet spare;
        private int height;
        private int at;

        PlanReader(Tape tape) {
            this.tape = tape;
            sets = new LineSet[MOST_SETS];
            spare = null;
            height = 0;
            at = 0;
            faultKind = 0;
            faultPlace = 0;
        }

        void forgetFault() {
            faultKind = 0;
            faultPlace = 0;
        }

        /** The lines of the plan on the tape as a new set, or null and a fault. */
        LineSet readTape() {
            at = 0;
            height = 0;
            if (!readPlan(0)) {
                return null;
            }
            if (at < tape.length) {
                stopAt(WRONG_BYTE, at);
                return null;
            }
            LineSet lines = new LineSet();
            if (sets[0] != null) {
                lines.copyFrom(sets[0]);
            }
            return lines;
        }

        private boolean readPlan(int open) {
            if (!readAlternative(open)) {
                return false;
            }
            for (int i = 0; i < MOST_BYTES && isSetSign(tape.byteAt(at)); i++) {
                int sign = tape.byteAt(at);
                at++;
                if (!readAlternative(open)) {
                    return false;
                }
                combineTopTwo(sign);
            }
            return true;
        }

        private boolean readAlternative(int open) {
            if (!readPart(open)) {
                return false;
            }
            for (int i = 0; i < MOST_BYTES && tape.byteAt(at) == '+'; i++) {
                at++;
                if (!readPart(open)) {
                    return false;
                }
                combineTopTwo('+');
            }
            return true;
        }

        private boolean readPart(int open) {
            return tape.byteAt(at) == '(' ? readInBrackets(open) : readChoices();
        }

        private boolean readInBrackets(int open) {
            if (open >= MOST_OPEN) {
                return stopAt(TOO_DEEP, at);
            }
            at++;
            if (!readPlan(open + 1)) {
                return false;
            }
            if (tape.byteAt(at) != ')') {
                return stopAt(WRONG_BYTE, at);
            }
            at++;
            return true;
        }

        private boolean readChoices() {
            int start = at;
            int chosen = NONE;
            int digits = digitsHere();
            if (digits > 0 && tape.byteAt(at + digits) == ':') {
                chosen = readNumber();
                at++;
            }
            int mask = readMatches();
            if (mask == NONE) {
                return false;
            }
            int size = Integer.bitCount(mask);
            if (chosen > size) {
                return stopAt(WRONG_NUMBER, start);
            }
            pushChoices(mask, chosen == NONE ? size : chosen);
            return true;
        }

        /** The matches as bits, or NONE and a fault. No text has more than fourteen without a fault. */
        private int readMatches() {
            int mask = 0;
            for (int i = 0; i <= MATCHES; i++) {
                int start = at;
                int match = readNumber();
                if (match == NONE) {
                    stopAt(WRONG_BYTE, at);
                    return NONE;
                }
                if (match >= MATCHES || ((mask >> match) & 1) == 1) {
                    stopAt(WRONG_NUMBER, start);
                    return NONE;
                }
                mask |= 1 << match;
                if (tape.byteAt(at) != '.') {
                    break;
                }
                at++;
            }
            return mask;
        }

        private int readNumber() {
            int digits = digitsHere();
            if (digits == 0) {
                return NONE;
            }
            int number = 0;
            for (int i = 0; i < digits; i++) {
                number = number * 10 + tape.byteAt(at) - '0';
                at++;
            }
            return number;
        }

        /** How many digits of one number stand here: none, one or two. */
        private int digitsHere() {
            if (!isDigit(tape.byteAt(at))) {
                return 0;
            }
            return isDigit(tape.byteAt(at + 1)) ? 2 : 1;
        }

        private static boolean isDigit(int sign) {
            return sign >= '0' && sign <= '9';
        }

        private static boolean isSetSign(int sign) {
            return sign == '|' || sign == '&' || sign == '-';
        }

        private boolean stopAt(int kind, int place) {
            faultKind = kind;
            faultPlace = place;
            return false;
        }

        private void pushChoices(int mask, int chosen) {
            if (height < 0 || height >= MOST_SETS) {
                return;
            }
            LineSet set = sets[height];
            if (set == null) {
                set = new LineSet();
                sets[height] = set;
            }
            set.becomeChoices(mask, chosen);
            height++;
        }

        private void combineTopTwo(int sign) {
            if (height < 2 || height > MOST_SETS) {
                return;
            }
            height--;
            LineSet first = sets[height - 1];
            LineSet second = sets[height];
            if (first == null || second == null) {
                return;
            }
            switch (sign) {
                case '|':
                    first.addAll(second);
                    break;
                case '&':
                    first.keepCommon(second);
                    break;
                case '-':
                    first.takeAway(second);
                    break;
                default:
                    LineSet joined = spare == null ? new LineSet() : spare;
                    joined.becomeJoined(first, second);
                    sets[height - 1] = joined;
                    spare = first;
                    break;
            }
        }
    }

    /** Weighs lines by the points that each match is worth, a word of a set at once. */
    private static final class Scale {
        /** The points of a line of all matches at their most. */
        static final int MOST = MATCHES * MOST_POINTS;
        private static final int MOST_LOW = LineSet.LOW_MATCHES * MOST_POINTS;

        private final int[] weights;
        private final int[] lowSums;
        private final int[] highSums;
        /** For each number of points the bits of a word whose low matches are worth that or more. */
        private final long[] lowFrom;

        Scale() {
            weights = new int[MATCHES];
            lowSums = new int[LineSet.LOW_NUMBERS];
            highSums = new int[LineSet.WORDS];
            lowFrom = new long[MOST_LOW + 1];
        }

        void weigh(int[] outcomes, int[] worth, int open) {
            for (int m = 0; m < MATCHES && m < outcomes.length; m++) {
                int outcome = outcomes[m];
                weights[m] = outcome >= 0 && outcome < worth.length ? worth[outcome] : open;
            }
            fillSums(lowSums, 0);
            fillSums(highSums, LineSet.LOW_MATCHES);
            fillLowFrom();
        }

        private void fillSums(int[] sums, int firstMatch) {
            sums[0] = 0;
            for (int n = 1; n < sums.length; n++) {
                int match = firstMatch + Integer.numberOfTrailingZeros(n);
                sums[n] = sums[n & (n - 1)] + (match < MATCHES ? weights[match] : 0);
            }
        }

        private void fillLowFrom() {
            Arrays.fill(lowFrom, 0L);
            for (int n = 0; n < LineSet.LOW_NUMBERS; n++) {
                int sum = lowSums[n];
                if (sum >= 0 && sum <= MOST_LOW) {
                    lowFrom[sum] |= 1L << n;
                }
            }
            for (int p = MOST_LOW - 1; p >= 0; p--) {
                lowFrom[p] |= lowFrom[p + 1];
            }
        }

        /** How many lines weigh so much or more. */
        int sizeFrom(LineSet lines, int least) {
            // Behind these tests the difference below can't wrap around.
            if (least <= 0) {
                return lines.sizeOfAll();
            }
            if (least > MOST) {
                return 0;
            }
            int size = 0;
            for (int w = 0; w < LineSet.WORDS; w++) {
                size += Long.bitCount(lines.words[w] & bitsFrom(least - highSums[w]));
            }
            return size;
        }

        private long bitsFrom(int least) {
            if (least <= 0) {
                return -1L;
            }
            return least > MOST_LOW ? 0L : lowFrom[least];
        }

        /** What the heaviest line weighs; NONE without lines. */
        int greatest(LineSet lines) {
            int most = NONE;
            int mostLow = lowSums[LineSet.LOW_NUMBERS - 1];
            for (int w = 0; w < LineSet.WORDS; w++) {
                if (lines.words[w] != 0L && highSums[w] + mostLow > most) {
                    most = Math.max(most, highSums[w] + greatestLow(lines.words[w]));
                }
            }
            return most;
        }

        private int greatestLow(long word) {
            for (int p = MOST_LOW; p > 0; p--) {
                if ((word & lowFrom[p]) != 0L) {
                    return p;
                }
            }
            return 0;
        }
    }

    private static final class Coupon {
        final LineSet lines;
        final int size;
        final int price;
        final int parts;
        boolean isVoid;

        Coupon(LineSet lines, int price, int parts) {
            this.lines = lines;
            this.size = lines.sizeOfAll();
            this.price = price;
            this.parts = parts;
            this.isVoid = false;
        }

        int stakeInCoins() {
            return size * price;
        }
    }

    private static final class Dividend {
        int least;
        int share;
        int ceiling;
        long carried;
        long winners;
        long coin;

        Dividend() {
            begin(0, 0, 0);
        }

        void begin(int newLeast, int newShare, int newCeiling) {
            least = newLeast;
            share = newShare;
            ceiling = newCeiling;
            carried = 0L;
            winners = 0L;
            coin = 0L;
        }

        void copyFrom(Dividend other) {
            least = other.least;
            share = other.share;
            ceiling = other.ceiling;
            carried = other.carried;
            winners = other.winners;
            coin = other.coin;
        }

        /** Pays so many winners from what it carries: what it pays in all. */
        long pay(long newWinners, int unit) {
            winners = newWinners;
            coin = 0L;
            if (winners > 0L && unit > 0) {
                long each = carried / winners;
                coin = Math.min(each - each % unit, ceiling);
            }
            long paid = coin * winners;
            carried -= paid;
            return paid;
        }
    }

    /** All that settle() changes, in one object, so that undo() brings it back by a copy. */
    private static final class Books {
        int week;
        long hallMoney;
        long paidMoney;
        /** A score hides the panel until panel() takes both away, so the outcome alone is ever seen. */
        final int[] outcomes;
        private final Coupon[] coupons;
        int couponsHeld;
        private final Dividend[] dividends;
        int dividendsHeld;
        private final long[] prizes;
        private final int[] prizeParts;
        private int prizesHeld;

        Books() {
            outcomes = new int[MATCHES];
            Arrays.fill(outcomes, NONE);
            coupons = new Coupon[MOST_COUPONS];
            dividends = new Dividend[MOST_DIVIDENDS];
            for (int i = 0; i < MOST_DIVIDENDS; i++) {
                dividends[i] = new Dividend();
            }
            prizes = new long[MOST_COUPONS];
            prizeParts = new int[MOST_COUPONS];
        }

        /** Coupons are shared, not copied: those of a settled week are out of every call's reach. */
        void copyFrom(Books other) {
            week = other.week;
            hallMoney = other.hallMoney;
            paidMoney = other.paidMoney;
            couponsHeld = other.couponsHeld;
            dividendsHeld = other.dividendsHeld;
            prizesHeld = other.prizesHeld;
            System.arraycopy(other.outcomes, 0, outcomes, 0, MATCHES);
            System.arraycopy(other.prizes, 0, prizes, 0, MOST_COUPONS);
            System.arraycopy(other.prizeParts, 0, prizeParts, 0, MOST_COUPONS);
            for (int i = 0; i < MOST_COUPONS; i++) {
                coupons[i] = other.coupons[i];
            }
            for (int i = 0; i < MOST_DIVIDENDS; i++) {
                dividends[i].copyFrom(other.dividends[i]);
            }
        }

        Coupon couponAt(int i) {
            return i >= 0 && i < couponsHeld && i < MOST_COUPONS ? coupons[i] : null;
        }

        int addCoupon(Coupon added) {
            if (couponsHeld >= MOST_COUPONS) {
                return NONE;
            }
            coupons[couponsHeld] = added;
            couponsHeld++;
            return couponsHeld - 1;
        }

        Dividend dividendAt(int i) {
            return i >= 0 && i < dividendsHeld && i < MOST_DIVIDENDS ? dividends[i] : null;
        }

        int addDividend(int least, int share, int ceiling) {
            Dividend ahead = dividendAt(dividendsHeld - 1);
            if (dividendsHeld >= MOST_DIVIDENDS || (ahead != null && least >= ahead.least)) {
                return NONE;
            }
            if (sharesTogether() + share > HUNDRED) {
                return NONE;
            }
            dividends[dividendsHeld].begin(least, share, ceiling);
            dividendsHeld++;
            return dividendsHeld - 1;
        }

        private int sharesTogether() {
            int together = 0;
            for (int i = 0; i < dividendsHeld; i++) {
                together += dividends[i].share;
            }
            return together;
        }

        int dropDividends() {
            int dropped = dividendsHeld;
            hallMoney += carriedMoney();
            dividendsHeld = 0;
            return dropped;
        }

        long carriedMoney() {
            long carried = 0L;
            for (int i = 0; i < dividendsHeld; i++) {
                carried += dividends[i].carried;
            }
            return carried;
        }

        int matchesDecided() {
            int decided = 0;
            for (int m = 0; m < MATCHES; m++) {
                decided += outcomes[m] != NONE ? 1 : 0;
            }
            return decided;
        }

        long stakesInPlay() {
            long stakes = 0L;
            for (int i = 0; i < couponsHeld; i++) {
                Coupon played = couponAt(i);
                if (played != null && !played.isVoid) {
                    stakes += played.stakeInCoins();
                }
            }
            return stakes;
        }

        /** Settles the week and begins the next one: what is paid in all. */
        long closeWeek(Scale scale, int hall, int unit) {
            long stakes = stakesInPlay();
            long pool = stakes - stakes * hall / HUNDRED;
            long hallPart = stakes;
            long paid = 0L;
            openPrizes();
            for (int i = 0; i < dividendsHeld; i++) {
                long part = pool * dividends[i].share / HUNDRED;
                hallPart -= part;
                dividends[i].carried += part;
                paid += payDividend(i, scale, unit);
            }
            hallMoney += hallPart;
            paidMoney += paid;
            beginNextWeek();
            return paid;
        }

        private void openPrizes() {
            prizesHeld = couponsHeld;
            for (int i = 0; i < MOST_COUPONS; i++) {
                Coupon held = couponAt(i);
                prizes[i] = 0L;
                prizeParts[i] = held == null ? 0 : held.parts;
            }
        }

        private long payDividend(int d, Scale scale, int unit) {
            long winners = 0L;
            for (int i = 0; i < couponsHeld; i++) {
                winners += winningCoins(i, d, scale);
            }
            long paid = dividends[d].pay(winners, unit);
            for (int i = 0; paid > 0L && i < couponsHeld; i++) {
                prizes[i] += dividends[d].coin * winningCoins(i, d, scale);
            }
            return paid;
        }

        /** A coupon's winning lines in a dividend times its price. */
        private long winningCoins(int i, int d, Scale scale) {
            Coupon played = couponAt(i);
            Dividend won = dividendAt(d);
            if (played == null || won == null || played.isVoid) {
                return 0L;
            }
            Dividend ahead = dividendAt(d - 1);
            int lines = scale.sizeFrom(played.lines, won.least);
            if (ahead != null) {
                lines -= scale.sizeFrom(played.lines, ahead.least);
            }
            return (long) lines * played.price;
        }

        private void beginNextWeek() {
            week++;
            couponsHeld = 0;
            Arrays.fill(outcomes, NONE);
        }

        long prizeTold(int i, int part) {
            if (i < 0 || i >= prizesHeld || i >= MOST_COUPONS) {
                return NONE;
            }
            int parts = prizeParts[i];
            if (part == NONE) {
                return prizes[i];
            }
            if (part < 0 || part >= parts || parts <= 0) {
                return NONE;
            }
            long each = prizes[i] / parts;
            return part == 0 ? each + prizes[i] % parts : each;
        }
    }
}
