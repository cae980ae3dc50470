/** Promises 1 to 13: the text, the leaf, windows, marks, specks. */
public final class LeafTest {
    public static void main(String[] args) {
        newObject();
        writing();
        wiping();
        faults();
        becomingLeaf();
        lateLeafChangesNothing();
        about();
        greys();
        shows();
        windows();
        spreads();
        darkByMean();
        darkBySpread();
        darkByBound();
        stains();
        stainKeepsItsWindow();
        under();
        cleaned();
        cleanedKeepsRowsApart();
        Due.end();
    }

    private static void newObject() {
        LeafInk ink = new LeafInk();
        int[] want = {1, 1, 0, 0, 0, 9, 0, 1, 1, 11, 0, 0, 0};
        for (int what = 0; what < want.length; what++) {
            Due.is("new about(" + what + ")", ink.about(what), want[what]);
        }
        Due.is("new grey(0, 0)", ink.grey(0, 0), 9);
        Due.is("new grey(1, 0)", ink.grey(1, 0), 9);
        for (int grey = 0; grey <= 9; grey++) {
            Due.is("new shows(" + grey + ")", ink.shows(grey), 0);
        }
        Due.is("new undo()", ink.undo(), LeafInk.LATE);
        Due.is("new again(0)", ink.again(0), LeafInk.LATE);
        Due.is("new again(1)", ink.again(1), LeafInk.LATE);
        Due.is("new ways(0)", ink.ways(0), 30);
        Due.is("new seed(7)", ink.seed(7), 0);
        Due.is("new leaf()", ink.leaf(), LeafInk.LATE);
    }

    private static void writing() {
        LeafInk ink = new LeafInk();
        Due.is("write(0)", ink.write(0), 1);
        Due.is("write(255)", ink.write(255), 2);
        Due.is("write(-1)", ink.write(-1), LeafInk.BAD);
        Due.is("write(256)", ink.write(256), LeafInk.BAD);
        Due.is("write(MAX)", ink.write(Integer.MAX_VALUE), LeafInk.BAD);
        Due.is("write(MIN)", ink.write(Integer.MIN_VALUE), LeafInk.BAD);
        Due.is("letters after refusals", ink.about(12), 2);
        for (int length = 3; length <= 56; length++) {
            Due.is("write(76) as number " + length, ink.write(76), length);
        }
        Due.is("write when full", ink.write(76), LeafInk.FULL);
        Due.is("bad write when full", ink.write(256), LeafInk.BAD);
        Due.is("letters when full", ink.about(12), 56);
    }

    private static void wiping() {
        LeafInk ink = new LeafInk();
        Due.is("wipe() of nothing", ink.wipe(), 0);
        Due.writeAll(ink, "L119B9");
        Due.is("wipe()", ink.wipe(), 6);
        Due.is("wipe() again", ink.wipe(), 0);
        Due.is("letters after wipe()", ink.about(12), 0);
        Due.is("fault() after wipe()", ink.fault(), 0);
        Due.is("write after wipe()", ink.write(76), 1);
    }

    private static void faults() {
        fault("", 0);
        fault("L", 1);
        fault("M", 0);
        fault("l", 0);
        fault("L0", 1);
        fault("L6", 1);
        fault("L1", 2);
        fault("L5", 2);
        fault("L50", 2);
        fault("L56", 2);
        fault("L55", 3);
        fault("L6119B9", 1);
        fault("X6119B9", 0);
        fault("L11", 3);
        fault("L11B", 3);
        fault("L11/", 3);
        fault("L11:", 3);
        fault("L119", 4);
        fault("L1199", 4);
        fault("L119b9", 4);
        fault("L119B", 5);
        fault("L119BB", 5);
        fault("L119B/", 5);
        fault("L119B:", 5);
        fault("L110B0", LeafInk.NONE);
        fault("L119B9", LeafInk.NONE);
        fault("L119B90", 6);
        fault("L119B9L", 6);
        fault("L23012345B67890", 15);
        fault("L23012345B678901", LeafInk.NONE);
        fault("L32012345B6789012", 16);
        fault("L32B", 3);
        String whole = "L55" + "0123456789012345678901234" + "B" + "9876543210987654321098765";
        fault(whole.substring(0, 28), 28);
        fault(whole.substring(0, 53), 53);
        fault(whole, LeafInk.NONE);
        fault(whole + "0", 54);
        fault(whole + "00", 54);
    }

    private static void fault(String letters, int want) {
        LeafInk ink = new LeafInk();
        Due.writeAll(ink, letters);
        Due.is("fault() of '" + letters + "'", ink.fault(), want);
        Due.is("fault() of '" + letters + "' once more", ink.fault(), want);
        if (want != LeafInk.NONE) {
            Due.is("leaf() of '" + letters + "'", ink.leaf(), LeafInk.LATE);
        }
    }

    private static void becomingLeaf() {
        LeafInk ink = Due.leaf("L32 012345 B 678901");
        for (int dot = 0; dot < 6; dot++) {
            Due.is("front " + dot, ink.grey(0, dot), dot);
            Due.is("back " + dot, ink.grey(1, dot), (dot + 6) % 10);
        }
        Due.is("the text stays", ink.about(12), 16);
        Due.is("the same text once more", ink.leaf(), 6);
        ink.rule(2, 2, 7);
        ink.table(0, 4);
        ink.table(3, 4);
        ink.table(9, 4);
        ink.lay(-1, 1);
        ink.paint(0, 0, 9);
        ink.keep(0);
        ink.keep(1);
        ink.see(5, 0);
        ink.seed(77);
        Due.retell(ink, "L12 34 B 56");
        int[] want = {1, 2, 0, 0, 0, 7, 0, 1, 1, 11, 0, 1, 8};
        for (int what = 0; what < want.length; what++) {
            Due.is("about(" + what + ") of the new leaf", ink.about(what), want[what]);
        }
        Due.is("the table as at first", ink.shows(0) + ink.shows(3) + ink.shows(9), 0);
        Due.is("kept 0 is gone", ink.again(0), LeafInk.LATE);
        Due.is("kept 1 is gone", ink.again(1), LeafInk.LATE);
        Due.is("no doings", ink.undo(), LeafInk.LATE);
        Due.is("the seed stays", ink.seed(0), 77);
        Due.is("no dot 2 any more", ink.grey(0, 2), LeafInk.UNKNOWN);
    }

    private static void lateLeafChangesNothing() {
        LeafInk ink = Due.leaf("L21 19 B 45");
        ink.rule(2, 0, 5);
        ink.keep(1);
        ink.write('0');
        Due.is("leaf() with a fault", ink.leaf(), LeafInk.LATE);
        Due.is("rule after it", ink.about(6), 2);
        Due.is("doings after it", ink.about(10), 1);
        Due.is("slot after it", ink.again(1), 1);
        Due.is("letters after it", ink.about(12), 9);
    }

    private static void about() {
        LeafInk ink = Due.leaf("L32 190190 B 222333");
        ink.rule(2, 2, 5);
        ink.table(2, 9);
        ink.lay(1, -1);
        ink.see(0, 1);
        ink.see(1, 1);
        // Dots 0, 2, 3 and 5 are dark; the back has moved down, so only row 1 has some of it under it,
        // of row 0, and to the left: dot 3 has none, dot 5 the grey 2 of the second one.
        int[] want = {3, 2, 4, 1, 3, 20, 2, 2, 5, 20, 3, 2, 16};
        for (int what = 0; what < want.length; what++) {
            Due.is("about(" + what + ")", ink.about(what), want[what]);
        }
        Due.is("about(-1)", ink.about(-1), LeafInk.BAD);
        Due.is("about(13)", ink.about(13), LeafInk.BAD);
        Due.is("about(MAX)", ink.about(Integer.MAX_VALUE), LeafInk.BAD);
    }

    private static void greys() {
        LeafInk ink = Due.leaf("L21 19 B 45");
        Due.is("grey(0, 1)", ink.grey(0, 1), 9);
        Due.is("grey(1, 0)", ink.grey(1, 0), 4);
        Due.is("grey(2, 0)", ink.grey(2, 0), LeafInk.UNKNOWN);
        Due.is("grey(-1, 0)", ink.grey(-1, 0), LeafInk.UNKNOWN);
        Due.is("grey(0, 2)", ink.grey(0, 2), LeafInk.UNKNOWN);
        Due.is("grey(1, 2)", ink.grey(1, 2), LeafInk.UNKNOWN);
        Due.is("grey(0, -1)", ink.grey(0, -1), LeafInk.UNKNOWN);
        Due.is("grey(1, MIN)", ink.grey(1, Integer.MIN_VALUE), LeafInk.UNKNOWN);
        Due.is("grey(1, MAX)", ink.grey(1, Integer.MAX_VALUE), LeafInk.UNKNOWN);
    }

    private static void shows() {
        LeafInk ink = new LeafInk();
        ink.table(0, 3);
        ink.table(9, 8);
        Due.is("shows(0)", ink.shows(0), 3);
        Due.is("shows(9)", ink.shows(9), 8);
        Due.is("shows(5)", ink.shows(5), 0);
        Due.is("shows(-1)", ink.shows(-1), LeafInk.BAD);
        Due.is("shows(10)", ink.shows(10), LeafInk.BAD);
    }

    private static void windows() {
        LeafInk ink = Due.leaf("L33 012345678 B 999999999");
        window(ink, 4, 9, 36, 204);
        window(ink, 0, 4, 8, 26);
        window(ink, 1, 6, 15, 55);
        window(ink, 8, 4, 4 + 5 + 7 + 8, 16 + 25 + 49 + 64);
        ink.rule(0, 0, 1);
        window(ink, 7, 1, 7, 49);
        ink.rule(0, 2, 1);
        window(ink, 0, 9, 36, 204);
        window(ink, 8, 9, 36, 204);
        Due.is("window(9, 0)", ink.window(9, 0), LeafInk.UNKNOWN);
        Due.is("window(-1, 0)", ink.window(-1, 0), LeafInk.UNKNOWN);
        Due.is("window(9, 3)", ink.window(9, 3), LeafInk.UNKNOWN);
        Due.is("window(0, 3)", ink.window(0, 3), LeafInk.BAD);
        Due.is("window(0, -1)", ink.window(0, -1), LeafInk.BAD);
        LeafInk wide = Due.leaf("L53 111111111111111 B 000000000000000");
        int[] reachTwo = {9, 12, 15, 12, 9};
        wide.rule(0, 2, 1);
        for (int x = 0; x < 5; x++) {
            Due.is("window(" + x + ", 0) by reach 2", wide.window(x, 0), reachTwo[x]);
        }
        wide.rule(0, 1, 1);
        Due.is("window(5, 0) by reach 1", wide.window(5, 0), 6);
        Due.is("window(7, 0) by reach 1", wide.window(7, 0), 9);
    }

    private static void window(LeafInk ink, int dot, int many, int sum, int squares) {
        Due.is("N of " + dot, ink.window(dot, 0), many);
        Due.is("S of " + dot, ink.window(dot, 1), sum);
        Due.is("Q of " + dot, ink.window(dot, 2), squares);
    }

    private static void spreads() {
        LeafInk ink = Due.leaf("L33 012345678 B 999999999");
        spread(ink, 4, 4, 1, 20, 3);
        spread(ink, 0, 2, 1, 5, 2);
        spread(ink, 1, 5, 2, 35, 12);
        ink.rule(0, 0, 0);
        spread(ink, 0, 0, 1, 0, 1);
        spread(ink, 8, 8, 1, 0, 1);
        Due.is("spread(9, 0, true)", ink.spread(9, 0, true), LeafInk.UNKNOWN);
        Due.is("spread(-1, 2, true)", ink.spread(-1, 2, true), LeafInk.UNKNOWN);
        Due.is("spread(0, 2, true)", ink.spread(0, 2, true), LeafInk.BAD);
        Due.is("spread(0, -1, false)", ink.spread(0, -1, false), LeafInk.BAD);
    }

    private static void spread(LeafInk ink, int dot, int mean, int meanBy, int spread, int spreadBy) {
        Due.fraction("mean of " + dot, () -> ink.spread(dot, 0, true), () -> ink.spread(dot, 0, false), mean, meanBy);
        Due.fraction("spread of " + dot, () -> ink.spread(dot, 1, true), () -> ink.spread(dot, 1, false),
                spread, spreadBy);
    }

    private static void darkByMean() {
        LeafInk ink = Due.leaf("L21 13 B 99");
        Due.is("2 and 2 are not less than 4", ink.mark(0), 0);
        ink.rule(0, 1, 0);
        Due.is("2 is less than 4", ink.mark(0), 2);
        Due.is("6 is not", ink.mark(1), 0);
        ink.rule(0, 0, 0);
        Due.is("by itself it is not less", ink.mark(0), 0);
        LeafInk row = Due.leaf("L31 919 B 999");
        ink.rule(0, 1, 5);
        for (int bound = 0; bound <= 9; bound++) {
            row.rule(0, 1, bound);
            // 3 times 1, and 3 times the bound, against 19
            Due.is("mark(1) by bound " + bound, row.mark(1), bound <= 5 ? 2 : 0);
        }
        Due.is("mark(3)", row.mark(3), LeafInk.UNKNOWN);
        Due.is("mark(-1)", row.mark(-1), LeafInk.UNKNOWN);
    }

    private static void darkBySpread() {
        LeafInk ink = Due.leaf("L51 86425 B 99999");
        for (int bound = 0; bound <= 9; bound++) {
            ink.rule(1, 2, bound);
            // Dot 2: N 5, S 25, Q 145: 100 times 25 against the square of the bound times 100.
            Due.is("mark(2) by bound " + bound, ink.mark(2), bound <= 4 ? 2 : 0);
            Due.is("mark(0) by bound " + bound, ink.mark(0), 0);
        }
        LeafInk even = Due.leaf("L22 4444 B 9999");
        even.rule(1, 1, 0);
        Due.is("no dot is less than its like", even.about(2), 0);
        LeafInk two = Due.leaf("L21 13 B 99");
        Due.is("rule 1, bound 9", two.rule(1, 1, 9), 1);
        Due.is("the darker one", two.mark(0), 2);
        Due.is("darker by half a grey", Due.leaf("L21 45 B 99").rule(1, 1, 9), 1);
    }

    private static void darkByBound() {
        LeafInk ink = Due.leaf("L52 0123456789 B 9999999999");
        for (int bound = 0; bound <= 9; bound++) {
            Due.is("ink by bound " + bound, ink.rule(2, bound % 3, bound), bound);
            Due.is("mark of the bound itself", ink.mark(bound), 0);
            if (bound > 0) {
                Due.is("mark of one less", ink.mark(bound - 1), 2);
            }
        }
    }

    private static void stains() {
        LeafInk ink = Due.leaf("L21 33 B 47");
        ink.rule(2, 0, 5);
        Due.is("both are ink", ink.about(4), 2);
        ink.table(7, 1);
        Due.is("4 is still less than 5", ink.mark(0), 2);
        ink.table(7, 2);
        Due.is("5 is not", ink.mark(0), 1);
        Due.is("grey 4 lies under the other", ink.mark(1), 2);
        ink.table(4, 9);
        Due.is("9 at most", ink.mark(1), 1);
        Due.is("stains", ink.about(3), 2);
        Due.is("dark dots", ink.about(2), 2);
        Due.is("ink", ink.about(4), 0);
        ink.lay(0, 1);
        Due.is("nothing lies under it", ink.mark(0), 2);
        ink.paint(0, 0, 5);
        Due.is("not dark at all", ink.mark(0), 0);
    }

    private static void stainKeepsItsWindow() {
        LeafInk ink = Due.leaf("L21 19 B 99");
        ink.table(9, 2);
        Due.is("6 and 2 are less than 10", ink.mark(0), 2);
        ink.table(9, 3);
        Due.is("8 and 2 are not", ink.mark(0), 1);
    }

    private static void under() {
        LeafInk ink = Due.leaf("L32 000000 B 000000");
        int[] straight = {2, 1, 0, 5, 4, 3};
        int[] right = {-9, 2, 1, -9, 5, 4};
        int[] left = {1, 0, -9, 4, 3, -9};
        int[] down = {5, 4, 3, -9, -9, -9};
        int[] upLeft = {-9, -9, -9, 1, 0, -9};
        allUnder(ink, 0, 0, straight);
        allUnder(ink, 1, 0, right);
        allUnder(ink, -1, 0, left);
        allUnder(ink, 0, 1, down);
        allUnder(ink, -1, -1, upLeft);
        Due.is("under(6)", ink.under(6), LeafInk.UNKNOWN);
        Due.is("under(-1)", ink.under(-1), LeafInk.UNKNOWN);
    }

    private static void allUnder(LeafInk ink, int dx, int dy, int[] want) {
        ink.lay(dx, dy);
        for (int dot = 0; dot < want.length; dot++) {
            Due.is("under(" + dot + ") by " + dx + ", " + dy, ink.under(dot), want[dot]);
        }
    }

    private static void cleaned() {
        // 0..9.  a speck of one, one of two by a corner, one of three
        // ..9.0
        LeafInk ink = Due.leaf("L54 09909 99099 99999 00099 B" + "9".repeat(20));
        ink.rule(2, 0, 1);
        int one = 1;
        int two = 1 << 3 | 1 << 7;
        int three = 1 << 15 | 1 << 16 | 1 << 17;
        Due.is("cleaned(0)", ink.cleaned(0), one | two | three);
        Due.is("cleaned(1)", ink.cleaned(1), two | three);
        Due.is("cleaned(2)", ink.cleaned(2), three);
        Due.is("cleaned(3)", ink.cleaned(3), 0);
        Due.is("cleaned(25)", ink.cleaned(25), 0);
        Due.is("cleaned(-1)", ink.cleaned(-1), LeafInk.BAD);
        Due.is("cleaned(26)", ink.cleaned(26), LeafInk.BAD);
        Due.is("ink is as it was", ink.about(4), 6);
        LeafInk full = Due.leaf("L55" + "0".repeat(25) + "B" + "9".repeat(25));
        full.rule(2, 0, 1);
        Due.is("cleaned(24) of all", full.cleaned(24), (1 << 25) - 1);
        Due.is("cleaned(25) of all", full.cleaned(25), 0);
        LeafInk snake = Due.leaf("L55 00000 99990 00000 09999 00000 B" + "9".repeat(25));
        snake.rule(2, 0, 1);
        Due.is("cleaned(16) of a snake", Integer.bitCount(snake.cleaned(16)), 17);
        Due.is("cleaned(17) of a snake", snake.cleaned(17), 0);
        stainsAreNoSpecks();
    }

    private static void stainsAreNoSpecks() {
        LeafInk ink = Due.leaf("L31 000 B 949");
        ink.rule(2, 0, 1);
        ink.table(4, 1);
        Due.is("a stain parts two dots", ink.cleaned(1), 0);
        Due.is("cleaned(0) without the stain", ink.cleaned(0), 5);
    }

    private static void cleanedKeepsRowsApart() {
        LeafInk ink = Due.leaf("L32 990 099 B 999999");
        ink.rule(2, 0, 1);
        Due.is("the end of a row and the next one's start", ink.cleaned(1), 0);
        LeafInk narrow = Due.leaf("L15 09009 B 99999");
        narrow.rule(2, 0, 1);
        Due.is("one column", narrow.cleaned(1), 1 << 2 | 1 << 3);
        LeafInk corner = Due.leaf("L22 0990 B 9999");
        corner.rule(2, 0, 1);
        Due.is("by corners", corner.cleaned(1), 1 | 1 << 3);
        LeafInk other = Due.leaf("L22 9009 B 9999");
        other.rule(2, 0, 1);
        Due.is("by the other corners", other.cleaned(1), 1 << 1 | 1 << 2);
    }
}
