import java.math.BigInteger;
/** The edges of promises 27 to 29: BLEACHED, THE SEED that wraps, what is DRAWN by it. */
public final class EdgeChanceTest {
    private static final int BAD = LeafInk.BAD, UNKNOWN = LeafInk.UNKNOWN;
    private static final int MIN = Integer.MIN_VALUE, MAX = Integer.MAX_VALUE;
    private static final BigInteger TWO_64 = BigInteger.ONE.shiftLeft(64);
    private static final BigInteger TIMES = new BigInteger("6364136223846793005");
    private static final BigInteger AND = new BigInteger("1442695040888963407");

    public static void main(String[] args) {
        bleachedByNoneAndByAllTenths();
        bleachedFromNoneToAllInk();
        bleachedInLeastTerms();
        bleachedOfEachRow();
        bleachedUnknown();
        bleachedBad();
        bleachedUnknownIsToldBeforeBad();
        seedOfAllBits();
        seedWraps();
        drawnFromOneToTwenty();
        drawnBad();
        upperBitsAlone();
        greysByThirtyTwo();
        dotsByTheirNumber();
        drawnChangesTheSeedAlone();
        drawnAllInk();
        Due.end();
    }

    private static LeafInk black(int w, int h) {
        LeafInk ink = Due.leaf("L" + w + h + "0".repeat(w * h) + "B" + "9".repeat(w * h));
        ink.rule(2, 0, 1);
        return ink;
    }

    private static void bleached(LeafInk ink, int row, int v, int x, int above, int below) {
        String call = "bleached(" + row + ", " + v + ", " + x + ")";
        Due.is(call + " above", ink.bleached(row, v, x, true), above);
        Due.is(call + " below", ink.bleached(row, v, x, false), below);
    }

    // "each DOT of a row of THE LEAF gets GREY 9 by x tenths (0 .. 10), by itself"
    private static void bleachedByNoneAndByAllTenths() {
        LeafInk ink = black(5, 5);
        bleached(ink, 0, 25, 0, 1, 1);
        bleached(ink, 0, 25, 10, 0, 1);
        bleached(ink, 0, 20, 10, 1, 1);
        bleached(ink, 0, 21, 10, 0, 1);
        bleached(ink, 0, 25, 1, 59049, 100000);
        bleached(ink, 0, 25, 9, 1, 100000);
        bleached(ink, 0, 21, 1, 99999, 100000);
        LeafInk one = black(1, 1);
        for (int x = 0; x <= 10; x++) {
            int common = BigInteger.valueOf(10 - x).gcd(BigInteger.TEN).intValue();
            bleached(one, 0, 1, x, (10 - x) / common, 10 / common);
            bleached(one, 0, 0, x, 1, 1);
            bleached(one, 0, 2, x, 0, 1);
        }
    }

    // "that v DOTS (0 .. 25) or more are INK"
    private static void bleachedFromNoneToAllInk() {
        LeafInk ink = black(5, 5);
        int[] above = {1, 31, 13, 1, 3, 1};
        int[] below = {1, 32, 16, 2, 16, 32};
        for (int v = 0; v <= 25; v++) {
            int more = Math.max(0, v - 20);
            bleached(ink, 4, v, 5, above[more], below[more]);
        }
        bleached(new LeafInk(), 0, 0, 0, 1, 1);
        bleached(new LeafInk(), 0, 1, 0, 0, 1);
        bleached(new LeafInk(), 0, 25, 10, 0, 1);
    }

    private static void bleachedInLeastTerms() {
        LeafInk ink = black(2, 1);
        bleached(ink, 0, 2, 5, 1, 4);
        bleached(ink, 0, 1, 5, 3, 4);
        bleached(ink, 0, 2, 2, 16, 25);
        bleached(ink, 0, 1, 1, 99, 100);
        bleached(ink, 0, 1, 10, 0, 1);
        bleached(ink, 0, 2, 0, 1, 1);
    }

    private static void bleachedOfEachRow() {
        LeafInk ink = Due.leaf("L25 00 09 99 90 00 B 9999999999");
        ink.rule(2, 0, 1);
        bleached(ink, 0, 6, 5, 1, 4);
        bleached(ink, 1, 6, 5, 1, 2);
        bleached(ink, 2, 6, 5, 1, 1);
        bleached(ink, 3, 6, 5, 1, 2);
        bleached(ink, 4, 6, 5, 1, 4);
        bleached(ink, 4, 7, 0, 0, 1);
    }

    // "UNKNOWN: row"
    private static void bleachedUnknown() {
        for (boolean upper : new boolean[] {true, false}) {
            int[] rows = {-1, 2, 5, MIN, MAX};
            Twins.refusedAt("bleached of row", rows, row -> ink -> ink.bleached(row, 0, 0, upper), UNKNOWN);
            Due.is("a wide leaf has one row", black(5, 1).bleached(1, 0, 0, upper), UNKNOWN);
            Due.is("a high leaf has five", black(1, 5).bleached(4, 0, 0, upper), 1);
            Due.is("and no sixth", black(1, 5).bleached(5, 0, 0, upper), UNKNOWN);
        }
    }

    // "BAD: v, x."
    private static void bleachedBad() {
        for (boolean upper : new boolean[] {true, false}) {
            int[] many = {-1, 26, MIN, MAX};
            int[] tenths = {-1, 11, MIN, MAX};
            Twins.refusedAt("bleached by v", many, v -> ink -> ink.bleached(0, v, 5, upper), BAD);
            Twins.refusedAt("bleached by x", tenths, x -> ink -> ink.bleached(0, 1, x, upper), BAD);
            Twins.refused("bleached(0, 26, 11)", ink -> ink.bleached(0, 26, 11, upper), BAD);
            Twins.asked("bleached(0, 25, 0)", Twins::rich, ink -> ink.bleached(0, 25, 0, upper), upper ? 0 : 1);
            Twins.asked("bleached(1, 0, 10)", Twins::rich, ink -> ink.bleached(1, 0, 10, upper), 1);
        }
    }

    private static void bleachedUnknownIsToldBeforeBad() {
        int[] many = {-1, 26};
        int[] tenths = {-1, 11};
        Twins.refusedAt("bleached of no row by v", many, v -> ink -> ink.bleached(2, v, 5, true), UNKNOWN);
        Twins.refusedAt("bleached of no row by x", tenths, x -> ink -> ink.bleached(2, 1, x, false), UNKNOWN);
        Twins.refusedAt("bleached of row -1 by x", tenths, x -> ink -> ink.bleached(-1, 26, x, true), UNKNOWN);
    }

    // "THE SEED is v: what it was."; "(THE SEED, a long; 0 at first)"
    private static void seedOfAllBits() {
        LeafInk ink = new LeafInk();
        long before = 0;
        long[] seeds = {1, -1, Long.MAX_VALUE, Long.MIN_VALUE, 1L << 32, -1L << 32, 0xFFFFFFFFL, 0};
        for (long seed : seeds) {
            Due.is("seed(" + seed + ")", ink.seed(seed), before);
            Due.is("seed(" + seed + ") once more", ink.seed(seed), seed);
            before = seed;
        }
        LeafInk rich = Twins.rich();
        Due.is("seed(5)", rich.seed(5), -77);
        Due.is("seed(-77)", rich.seed(-77), 5);
        Twins.alike("the seed and nothing else", rich, Twins.rich());
    }

    private static long after(long seed, int times) {
        BigInteger x = BigInteger.valueOf(seed);
        for (int time = 0; time < times; time++) {
            x = x.multiply(TIMES).add(AND).mod(TWO_64);
        }
        return x.longValue();
    }

    /** The SEED from which the next x is this one. */
    private static long before(long x) {
        return BigInteger.valueOf(x).subtract(AND).multiply(TIMES.modInverse(TWO_64)).mod(TWO_64).longValue();
    }

    // "x times 6364136223846793005 and 1442695040888963407 (64 bits, wrapping)"
    private static void seedWraps() {
        long[] seeds = {0, 1, -1, 2, Long.MAX_VALUE, Long.MIN_VALUE, Long.MIN_VALUE + 1, 1L << 62, 0x5555555555555555L};
        for (long seed : seeds) {
            for (int m : new int[] {1, 2, 19, 20}) {
                LeafInk ink = new LeafInk();
                ink.seed(seed);
                ink.drawn(m);
                Due.is("the seed " + seed + " behind " + m, ink.seed(0), after(seed, m));
            }
        }
        for (long x : new long[] {0, -1, Long.MAX_VALUE, Long.MIN_VALUE}) {
            LeafInk ink = new LeafInk();
            ink.seed(before(x));
            ink.drawn(1);
            Due.is("the seed behind which is " + x, ink.seed(0), x);
        }
        Due.is("from 0 the second number alone", after(0, 1), 1442695040888963407L);
    }

    // "m times (1 .. 20)"
    private static void drawnFromOneToTwenty() {
        for (int m = 1; m <= 20; m++) {
            LeafInk together = Due.leaf("L32 999999 B 999999");
            together.rule(2, 0, 8);
            together.seed(m);
            int[] greys = {9, 9, 9, 9, 9, 9};
            int due = 0;
            for (int time = 1; time <= m; time++) {
                long upper = after(m, time) >>> 33;
                greys[(int) (upper % 6)] = (int) (upper / 32 % 10);
                for (int grey : greys) {
                    due += grey < 8 ? 1 : 0;
                }
            }
            Due.is("drawn(" + m + ")", together.drawn(m), due);
        }
    }

    // "BAD: m."
    private static void drawnBad() {
        Twins.refusedAt("drawn", new int[] {-1, 0, 21, MIN, MAX}, m -> ink -> ink.drawn(m), BAD);
    }

    /** INK of a leaf of this many white DOTS when the upper 31 bits are these: its BITS, and each GREY by a bound. */
    private static void drawnOnce(int dots, long x, int dot, int grey) {
        for (int bound = 0; bound <= 9; bound++) {
            LeafInk ink = Due.leaf("L" + dots + "1" + "9".repeat(dots) + "B" + "9".repeat(dots));
            ink.rule(2, 0, bound);
            ink.seed(before(x));
            Due.is("x " + x + " by bound " + bound, ink.drawn(1), grey < bound ? 1 : 0);
        }
        // On a leaf where only this DOT has a BACK that shows through, it alone is no INK when it is drawn.
        for (int other = 0; other < dots; other++) {
            LeafInk ink = Due.leaf("L" + dots + "1" + "9".repeat(dots) + "B" + "9".repeat(dots));
            ink.rule(2, 0, 9);
            ink.paint(1, dots - 1 - other, 0);
            ink.table(0, 9);
            ink.seed(before(x));
            Due.is("x " + x + " and dot " + other, ink.drawn(1), grey < 9 && other != dot ? 1 : 0);
        }
    }

    // "of its upper 31 bits": neither a sign nor what is below
    private static void upperBitsAlone() {
        drawnOnce(3, 0, 0, 0);
        drawnOnce(3, (1L << 33) - 1, 0, 0);
        drawnOnce(3, 1L << 33, 1, 0);
        drawnOnce(3, (1L << 34) - 1, 1, 0);
        drawnOnce(3, 1L << 34, 2, 0);
        // 2147483647 is 1 of 3, 2 of 5; by 32 67108863.
        drawnOnce(3, -1, 1, 3);
        drawnOnce(5, -1, 2, 3);
        // 1073741824 is 1 of 3, 4 of 5; by 32 33554432.
        drawnOnce(3, Long.MIN_VALUE, 1, 2);
        drawnOnce(5, Long.MIN_VALUE, 4, 2);
        // 1073741823 is 0 of 3, 3 of 5; by 32 33554431.
        drawnOnce(3, Long.MAX_VALUE, 0, 1);
        drawnOnce(5, Long.MAX_VALUE, 3, 1);
    }

    // "that by 32 (down), left by 10, a GREY"
    private static void greysByThirtyTwo() {
        long[] upper = {31, 32, 63, 64, 287, 288, 319, 320, 351, 352};
        int[] greys = {0, 1, 1, 2, 8, 9, 9, 0, 0, 1};
        for (int place = 0; place < upper.length; place++) {
            drawnOnce(2, upper[place] << 33, (int) (upper[place] % 2), greys[place]);
        }
    }

    // "what is left by the number of DOTS is a DOT of THE LEAF"
    private static void dotsByTheirNumber() {
        for (int dots = 1; dots <= 5; dots++) {
            for (long upper = 0; upper <= 2L * dots; upper++) {
                drawnOnce(dots, upper << 33, (int) (upper % dots), 0);
            }
        }
    }

    // "(Nothing changes but THE SEED.)"
    private static void drawnChangesTheSeedAlone() {
        for (int m : new int[] {1, 20}) {
            LeafInk ink = Twins.rich();
            ink.drawn(m);
            Due.is("the seed behind drawn(" + m + ")", ink.seed(-77), after(-77, m));
            Twins.alike("all but the seed", ink, Twins.rich());
        }
        LeafInk twice = new LeafInk();
        twice.drawn(20);
        twice.drawn(20);
        Due.is("the seed goes on", twice.seed(0), after(0, 40));
    }

    // "INK DOTS, each time, together"
    private static void drawnAllInk() {
        LeafInk ink = Due.leaf("L55" + "0".repeat(25) + "B" + "9".repeat(25));
        ink.rule(2, 0, 9);
        long seed = 0;
        int due = 0;
        int[] greys = new int[25];
        for (int time = 1; time <= 20; time++) {
            long upper = after(seed, time) >>> 33;
            greys[(int) (upper % 25)] = (int) (upper / 32 % 10);
            for (int grey : greys) {
                due += grey < 9 ? 1 : 0;
            }
        }
        Due.is("drawn(20) of 25 dots", ink.drawn(20), due);
        Due.is("drawn(20) of none by bound 0", none().drawn(20), 0);
    }

    private static LeafInk none() {
        LeafInk ink = new LeafInk();
        ink.rule(2, 0, 0);
        return ink;
    }
}
