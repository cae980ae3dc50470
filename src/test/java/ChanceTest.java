import java.math.BigInteger;

/** Promises 27 to 29: dots bleached by chance, leaves by a seed. */
public final class ChanceTest {
    private static final BigInteger TWO_64 = BigInteger.ONE.shiftLeft(64);

    public static void main(String[] args) {
        bleachedByBound();
        bleachedByWindows();
        bleachedRefusals();
        seeds();
        drawnOneDot();
        drawnChangesOnlyTheSeed();
        drawnPaintsOnWhatWasPainted();
        Due.end();
    }

    private static void bleachedByBound() {
        LeafInk ink = Due.leaf("L32 000 099 B 999999");
        ink.rule(2, 0, 1);
        bleached(ink, 0, 0, 5, 1, 1);
        bleached(ink, 0, 1, 5, 1, 1);
        bleached(ink, 0, 2, 5, 7, 8);
        bleached(ink, 0, 3, 5, 1, 2);
        bleached(ink, 0, 4, 5, 1, 8);
        bleached(ink, 0, 5, 5, 0, 1);
        bleached(ink, 0, 25, 5, 0, 1);
        bleached(ink, 1, 4, 3, 7, 10);
        bleached(ink, 1, 3, 3, 1, 1);
        bleached(ink, 0, 4, 0, 1, 1);
        bleached(ink, 0, 1, 10, 1, 1);
        bleached(ink, 0, 2, 10, 0, 1);
        bleached(ink, 0, 4, 1, 729, 1000);
        Due.is("greys are as they were", ink.about(5), 18);
        Due.is("no doings more", ink.about(10), 1);
    }

    private static void bleachedByWindows() {
        LeafInk ink = Due.leaf("L21 13 B 99");
        ink.rule(0, 1, 0);
        bleached(ink, 0, 1, 3, 91, 100);
        bleached(ink, 0, 2, 3, 0, 1);
        bleached(ink, 0, 1, 10, 0, 1);
        // of 8 8 and 0 below only the 0 is ink, but both 8 when it is bleached
        LeafInk more = Due.leaf("L22 88 09 B 9999");
        more.rule(0, 1, 0);
        bleached(more, 1, 2, 2, 1, 5);
        bleached(more, 1, 1, 2, 1, 1);
    }

    private static void bleachedRefusals() {
        LeafInk ink = new LeafInk();
        Due.is("bleached(1, 0, 0)", ink.bleached(1, 0, 0, true), LeafInk.UNKNOWN);
        Due.is("bleached(-1, 26, 11)", ink.bleached(-1, 26, 11, true), LeafInk.UNKNOWN);
        Due.is("bleached(0, -1, 0)", ink.bleached(0, -1, 0, true), LeafInk.BAD);
        Due.is("bleached(0, 26, 0)", ink.bleached(0, 26, 0, false), LeafInk.BAD);
        Due.is("bleached(0, 0, -1)", ink.bleached(0, 0, -1, true), LeafInk.BAD);
        Due.is("bleached(0, 0, 11)", ink.bleached(0, 0, 11, false), LeafInk.BAD);
        bleached(ink, 0, 0, 10, 1, 1);
        bleached(ink, 0, 1, 0, 0, 1);
    }

    private static void bleached(LeafInk ink, int row, int v, int x, int above, int below) {
        Due.fraction("bleached(" + row + ", " + v + ", " + x + ")", () -> ink.bleached(row, v, x, true),
                () -> ink.bleached(row, v, x, false), above, below);
    }

    private static void seeds() {
        LeafInk ink = new LeafInk();
        Due.is("seed(MIN)", ink.seed(Long.MIN_VALUE), 0);
        Due.is("seed(-1)", ink.seed(-1), Long.MIN_VALUE);
        Due.is("seed(0)", ink.seed(0), -1);
        Due.is("drawn(0)", ink.drawn(0), LeafInk.BAD);
        Due.is("drawn(21)", ink.drawn(21), LeafInk.BAD);
        Due.is("drawn(-1)", ink.drawn(-1), LeafInk.BAD);
        Due.is("the seed after refusals", ink.seed(0), 0);
        ink.drawn(1);
        Due.is("the seed after one", ink.seed(0), 1442695040888963407L);
        ink.drawn(20);
        Due.is("the seed after twenty", ink.seed(0), after(BigInteger.ZERO, 20).longValue());
    }

    private static BigInteger after(BigInteger seed, int times) {
        BigInteger x = seed;
        for (int time = 0; time < times; time++) {
            x = x.multiply(new BigInteger("6364136223846793005")).add(new BigInteger("1442695040888963407")).mod(TWO_64);
        }
        return x;
    }

    private static void drawnOneDot() {
        LeafInk ink = new LeafInk();
        ink.rule(2, 0, 5);
        int want = 0;
        for (int time = 1; time <= 20; time++) {
            BigInteger upper = after(BigInteger.valueOf(3), time).shiftRight(33);
            int grey = upper.shiftRight(5).mod(BigInteger.TEN).intValue();
            want += grey < 5 ? 1 : 0;
        }
        ink.seed(3);
        Due.is("drawn(20) of one dot", ink.drawn(20), want);
    }

    private static void drawnChangesOnlyTheSeed() {
        LeafInk ink = Due.leaf("L33 123456789 B 987654321");
        ink.seed(12345);
        ink.drawn(20);
        for (int dot = 0; dot < 9; dot++) {
            Due.is("front " + dot, ink.grey(0, dot), dot + 1);
            Due.is("back " + dot, ink.grey(1, dot), 9 - dot);
        }
        Due.is("doings", ink.about(10), 0);
        Due.is("seed", ink.seed(0), after(BigInteger.valueOf(12345), 20).longValue());
    }

    private static void drawnPaintsOnWhatWasPainted() {
        LeafInk ink = Due.leaf("L32 999999 B 999999");
        ink.rule(2, 0, 8);
        int[] greys = {9, 9, 9, 9, 9, 9};
        int want = 0;
        for (int time = 1; time <= 20; time++) {
            BigInteger upper = after(BigInteger.ZERO, time).shiftRight(33);
            greys[upper.mod(BigInteger.valueOf(6)).intValue()] = upper.shiftRight(5).mod(BigInteger.TEN).intValue();
            for (int grey : greys) {
                want += grey < 8 ? 1 : 0;
            }
        }
        Due.is("drawn(20)", ink.drawn(20), want);
    }
}
