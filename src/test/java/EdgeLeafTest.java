/** The edges of promises 6 to 13: what is told of THE LEAF, its WINDOWS, its marks, its SPECKS. */
public final class EdgeLeafTest {
    private static final int BAD = LeafInk.BAD, UNKNOWN = LeafInk.UNKNOWN, NONE = LeafInk.NONE;
    private static final int MIN = Integer.MIN_VALUE, MAX = Integer.MAX_VALUE;

    public static void main(String[] args) {
        aboutFromFirstToLast();
        aboutAllOrNothing();
        aboutTheLie();
        aboutWhatIsFull();
        aboutBad();
        sidesAndDotsOfGrey();
        showsBad();
        windowEdges();
        windowOfOneDotAndOfAll();
        windowRefusals();
        spreadEdges();
        spreadRefusals();
        markByMeanJustSo();
        markBySpreadJustSo();
        markByBoundJustSo();
        markOfStains();
        markRefusals();
        underEveryLie();
        underRefusals();
        cleanedFromNoneToAll();
        cleanedRowsApart();
        cleanedOfEveryForm();
        cleanedRefusals();
        Due.end();
    }

    /** On leaves of several forms each DOT from the first to the last is there, and none beside them. */
    private static void unknownDots(String name, DotCall call) {
        int[][] forms = {{1, 1}, {5, 1}, {1, 5}, {3, 2}, {2, 3}, {5, 5}};
        for (int[] form : forms) {
            int dots = form[0] * form[1];
            LeafInk ink = Due.even(form[0], form[1], 4, 4);
            for (int dot : new int[] {0, dots - 1}) {
                Due.that(name + " of dot " + dot + " of " + dots, call.on(ink, dot) != UNKNOWN);
            }
            for (int dot : new int[] {-1, dots, dots + 1, 25, 64, MIN, MAX}) {
                if (dot < 0 || dot >= dots) {
                    Due.is(name + " of dot " + dot + " of " + dots, call.on(ink, dot), UNKNOWN);
                }
            }
        }
        for (int dot : new int[] {-1, 6, MIN, MAX}) {
            Twins.refused(name + " of dot " + dot, ink -> call.on(ink, dot), UNKNOWN);
        }
    }

    private interface DotCall {
        long on(LeafInk ink, int dot);
    }

    // "w (what = 0), .. letters of THE TEXT (12)."
    private static void aboutFromFirstToLast() {
        LeafInk ink = Due.leaf("L32 190190 B 222333");
        ink.rule(2, 2, 5);
        ink.table(2, 9);
        ink.lay(1, -1);
        ink.see(0, 1);
        ink.see(1, 1);
        // DOTS 0, 2, 3, 5 are DARK; of the second row only DOTS 4, 5 have one UNDER them, of the first row of the BACK.
        int[] want = {3, 2, 4, 1, 3, 20, 2, 2, 5, 20, 3, 2, 16};
        for (int what = 0; what < want.length; what++) {
            Due.is("about(" + what + ")", ink.about(what), want[what]);
        }
    }

    private static void aboutAllOrNothing() {
        LeafInk ink = Due.even(5, 5, 0, 9);
        aboutMarks("an even leaf by the mean", ink, 0, 0, 0, 0);
        ink.rule(2, 0, 1);
        aboutMarks("all black", ink, 25, 0, 25, 0);
        ink.table(9, 1);
        aboutMarks("all stained", ink, 25, 25, 0, 0);
        ink.light(9);
        aboutMarks("all white", ink, 0, 0, 0, 225);
    }

    private static void aboutMarks(String what, LeafInk ink, int dark, int stains, int inks, int greys) {
        Due.is(what + ": dark", ink.about(2), dark);
        Due.is(what + ": stains", ink.about(3), stains);
        Due.is(what + ": ink", ink.about(4), inks);
        Due.is(what + ": greys", ink.about(5), greys);
    }

    // "THE LIE as 10 times dx and 1, and dy and 1 (9)"
    private static void aboutTheLie() {
        LeafInk ink = new LeafInk();
        for (int dx = -1; dx <= 1; dx++) {
            for (int dy = -1; dy <= 1; dy++) {
                ink.lay(dx, dy);
                Due.is("about(9) by " + dx + ", " + dy, ink.about(9), 10 * (dx + 1) + (dy + 1));
            }
        }
    }

    private static void aboutWhatIsFull() {
        LeafInk ink = Twins.crammed();
        Due.is("doings", ink.about(10), 14);
        Due.is("seen", ink.about(11), 6);
        Due.is("letters", ink.about(12), 56);
        ink.rule(2, 2, 9);
        Due.is("the last rule", ink.about(6), 2);
        Due.is("the last reach", ink.about(7), 2);
        Due.is("the last bound", ink.about(8), 9);
        ink.rule(0, 0, 0);
        Due.is("the first rule", ink.about(6), 0);
        Due.is("the first reach", ink.about(7), 0);
        Due.is("the first bound", ink.about(8), 0);
    }

    private static void aboutBad() {
        Twins.refusedAt("about", new int[] {-1, 13, MIN, MAX}, what -> ink -> ink.about(what), BAD);
        for (int what = 0; what <= 12; what++) {
            int asked = what;
            Twins.asked("about(" + what + ")", Twins::rich, ink -> ink.about(asked), Twins.rich().about(what));
        }
    }

    // "UNKNOWN: side, dot."
    private static void sidesAndDotsOfGrey() {
        Twins.refusedAt("grey of side", new int[] {-1, 2, MIN, MAX}, side -> ink -> ink.grey(side, 0), UNKNOWN);
        Twins.refusedAt("grey of no dot of side", new int[] {-1, 2}, side -> ink -> ink.grey(side, 6), UNKNOWN);
        unknownDots("grey of the leaf", (ink, dot) -> ink.grey(0, dot));
        unknownDots("grey of the back", (ink, dot) -> ink.grey(1, dot));
        LeafInk smaller = Due.even(5, 5, 0, 0);
        Due.retell(smaller, "L22 1234 B 5678");
        Due.is("the last dot of a smaller leaf", smaller.grey(0, 3), 4);
        Due.is("a dot that there was", smaller.grey(0, 4), UNKNOWN);
        Due.is("a dot of the back that there was", smaller.grey(1, 24), UNKNOWN);
        Twins.asked("grey(0, 5)", Twins::rich, ink -> ink.grey(0, 5), 2);
        Twins.asked("grey(1, 0)", Twins::rich, ink -> ink.grey(1, 0), 2);
    }

    // "THE TABLE's number for a GREY. BAD."
    private static void showsBad() {
        Twins.refusedAt("shows", new int[] {-1, 10, MIN, MAX}, grey -> ink -> ink.shows(grey), BAD);
        LeafInk ink = new LeafInk();
        for (int grey = 0; grey <= 9; grey++) {
            ink.table(grey, 9 - grey);
        }
        for (int grey = 0; grey <= 9; grey++) {
            Due.is("shows(" + grey + ")", ink.shows(grey), 9 - grey);
        }
    }

    // "no more than r columns and no more than r rows away from it, itself, too"
    private static void windowEdges() {
        // Each DOT alone at its place is 1, so S tells which DOTS a WINDOW has.
        for (int reach = 0; reach <= 2; reach++) {
            for (int alone = 0; alone < 25; alone++) {
                LeafInk ink = Due.even(5, 5, 0, 9);
                ink.rule(0, reach, 0);
                ink.paint(0, alone, 3);
                for (int dot = 0; dot < 25; dot++) {
                    boolean near = Math.abs(dot % 5 - alone % 5) <= reach && Math.abs(dot / 5 - alone / 5) <= reach;
                    Due.is("S of " + dot + " by " + alone + ", reach " + reach, ink.window(dot, 1), near ? 3 : 0);
                    Due.is("Q of " + dot + " by " + alone + ", reach " + reach, ink.window(dot, 2), near ? 9 : 0);
                }
            }
        }
        int[][] counts = {{1, 1, 1, 1, 1}, {4, 6, 6, 6, 4}, {6, 9, 9, 9, 6}, {9, 12, 15, 12, 9}, {15, 20, 25, 20, 15}};
        LeafInk ink = Due.even(5, 5, 0, 0);
        for (int x = 0; x < 5; x++) {
            ink.rule(0, 0, 0);
            Due.is("N by reach 0", ink.window(x, 0), counts[0][x]);
            ink.rule(0, 1, 0);
            Due.is("N by reach 1 at the edge", ink.window(20 + x, 0), counts[1][x]);
            Due.is("N by reach 1 inside", ink.window(10 + x, 0), counts[2][x]);
            ink.rule(0, 2, 0);
            Due.is("N by reach 2 at the edge", ink.window(20 + x, 0), counts[3][x]);
            Due.is("N by reach 2 inside", ink.window(10 + x, 0), counts[4][x]);
        }
    }

    private static void windowOfOneDotAndOfAll() {
        LeafInk one = new LeafInk();
        LeafInk all = Due.even(5, 5, 9, 0);
        for (int reach = 0; reach <= 2; reach++) {
            one.rule(0, reach, 0);
            Due.is("N of one dot", one.window(0, 0), 1);
            Due.is("S of one dot", one.window(0, 1), 9);
            Due.is("Q of one dot", one.window(0, 2), 81);
        }
        all.rule(0, 2, 0);
        Due.is("N of all", all.window(12, 0), 25);
        Due.is("S of all", all.window(12, 1), 225);
        Due.is("Q of all", all.window(12, 2), 2025);
    }

    // "UNKNOWN; BAD." in this order
    private static void windowRefusals() {
        unknownDots("window", (ink, dot) -> ink.window(dot, 0));
        unknownDots("window's Q", (ink, dot) -> ink.window(dot, 2));
        Twins.refusedAt("window", new int[] {-1, 3, MIN, MAX}, what -> ink -> ink.window(0, what), BAD);
        Twins.refusedAt("window of no dot", new int[] {-1, 3, MIN, MAX}, what -> ink -> ink.window(6, what), UNKNOWN);
        Twins.refusedAt("window of dot -1", new int[] {-1, 3, MIN, MAX}, what -> ink -> ink.window(-1, what), UNKNOWN);
        int[] due = {6, 21, 91};
        for (int what = 0; what <= 2; what++) {
            int asked = what;
            Twins.asked("window(4, " + what + ")", Twins::rich, ink -> ink.window(4, asked), due[what]);
        }
    }

    // "MEAN: S by N; SPREAD: N times Q, less S times S, by N times N"; "in least terms"
    private static void spreadEdges() {
        LeafInk black = Due.even(1, 1, 0, 9);
        spread("one black dot", black, 0, 0, 1, 0, 1);
        spread("one white dot", new LeafInk(), 0, 9, 1, 0, 1);
        LeafInk all = Due.even(5, 5, 9, 9);
        all.rule(0, 2, 0);
        spread("all white", all, 12, 9, 1, 0, 1);
        LeafInk two = Due.leaf("L21 09 B 00");
        spread("the widest", two, 0, 9, 2, 81, 4);
        two.rule(0, 0, 0);
        spread("by itself", two, 1, 9, 1, 0, 1);
        LeafInk least = Due.leaf("L55" + "0".repeat(24) + "1B" + "0".repeat(25));
        least.rule(0, 2, 0);
        spread("one grey in 25", least, 12, 1, 25, 24, 625);
        LeafInk terms = Due.leaf("L22 0033 B 0000");
        spread("in least terms", terms, 0, 3, 2, 9, 4);
        LeafInk whole = Due.leaf("L21 24 B 00");
        spread("whole numbers", whole, 0, 3, 1, 1, 1);
    }

    private static void spread(String what, LeafInk ink, int dot, int mean, int meanBy, int spread, int spreadBy) {
        Due.is(what + ": mean above", ink.spread(dot, 0, true), mean);
        Due.is(what + ": mean below", ink.spread(dot, 0, false), meanBy);
        Due.is(what + ": spread above", ink.spread(dot, 1, true), spread);
        Due.is(what + ": spread below", ink.spread(dot, 1, false), spreadBy);
    }

    // "UNKNOWN; BAD." in this order
    private static void spreadRefusals() {
        for (boolean upper : new boolean[] {true, false}) {
            int[] whats = {-1, 2, MIN, MAX};
            unknownDots("spread", (ink, dot) -> ink.spread(dot, 0, upper));
            unknownDots("spread", (ink, dot) -> ink.spread(dot, 1, upper));
            Twins.refusedAt("spread", whats, what -> ink -> ink.spread(0, what, upper), BAD);
            Twins.refusedAt("spread of no dot", whats, what -> ink -> ink.spread(6, what, upper), UNKNOWN);
            Twins.refusedAt("spread of dot -1", whats, what -> ink -> ink.spread(-1, what, upper), UNKNOWN);
        }
        Twins.asked("spread(4, 1)", Twins::rich, ink -> ink.spread(4, 1, true), 35);
    }

    // "by RULE 0, if N times v, and N times c, are less than S": like is not less
    private static void markByMeanJustSo() {
        LeafInk like = Due.leaf("L21 13 B 99");
        like.rule(0, 1, 1);
        Due.is("2 and 2 are not less than 4", like.mark(0), 0);
        like.paint(0, 1, 4);
        Due.is("2 and 2 are less than 5", like.mark(0), 2);
        LeafInk even = Due.even(2, 2, 4, 9);
        even.rule(0, 1, 0);
        Due.is("16 is not less than 16", even.mark(0), 0);
        LeafInk widest = Due.leaf("L55 9999999999990999999999999 B" + "9".repeat(25));
        for (int bound = 0; bound <= 9; bound++) {
            widest.rule(0, 2, bound);
            Due.is("25 times " + bound + " against 216", widest.mark(12), bound <= 8 ? 2 : 0);
            widest.rule(0, 1, bound);
            Due.is("9 times " + bound + " against 72", widest.mark(12), bound <= 7 ? 2 : 0);
            widest.rule(0, 0, bound);
            Due.is(bound + " against 0", widest.mark(12), 0);
        }
    }

    // "by 1, if N times v is less than S, and 100 times the square of what S is more is more than .."
    private static void markBySpreadJustSo() {
        LeafInk ink = Due.leaf("L51 86425 B 99999");
        for (int bound = 0; bound <= 9; bound++) {
            ink.rule(1, 2, bound);
            // DOT 2: N 5, S 25, Q 145: 2500 against the square of the bound times 100, alike by 5.
            Due.is("like is not more, bound " + bound, ink.mark(2), bound <= 4 ? 2 : 0);
            Due.is("much lighter than the mean, bound " + bound, ink.mark(0), 0);
        }
        LeafInk close = Due.leaf("L51 61000 B 99999");
        close.rule(1, 2, 6);
        Due.is("4900 is more than 4896", close.mark(2), 2);
        close.rule(1, 2, 7);
        Due.is("4900 is not more than 6664", close.mark(2), 0);
        LeafInk even = Due.even(3, 3, 4, 9);
        for (int bound = 0; bound <= 9; bound++) {
            even.rule(1, bound % 3, bound);
            Due.is("no spread and no more, bound " + bound, even.about(2), 0);
        }
        LeafInk mean = Due.leaf("L31 357 B 999");
        mean.rule(1, 1, 0);
        Due.is("just the mean", mean.mark(1), 0);
        Due.is("less than the mean", mean.mark(0), 2);
        Due.is("more than the mean", mean.mark(2), 0);
    }

    // "by 2, if v is less than c."
    private static void markByBoundJustSo() {
        LeafInk ink = new LeafInk();
        for (int grey = 0; grey <= 9; grey++) {
            ink.paint(0, 0, grey);
            for (int bound = 0; bound <= 9; bound++) {
                ink.rule(2, bound % 3, bound);
                Due.is("grey " + grey + " by bound " + bound, ink.mark(0), grey < bound ? 2 : 0);
            }
        }
    }

    // "a STAIN, if one lies UNDER it and the DOT is not DARK any more by a GREY more by the number .. (9 at most)"
    private static void markOfStains() {
        LeafInk ink = new LeafInk();
        ink.paint(0, 0, 3);
        ink.paint(1, 0, 0);
        ink.rule(2, 0, 6);
        for (int number = 0; number <= 9; number++) {
            ink.table(0, number);
            Due.is("3 and " + number + " against 6", ink.mark(0), number <= 2 ? 2 : 1);
        }
        ink.rule(2, 0, 9);
        ink.paint(0, 0, 8);
        ink.table(0, 9);
        Due.is("8 and 9 are 9 at most", ink.mark(0), 1);
        ink.lay(0, 1);
        Due.is("none lies under it", ink.mark(0), 2);
        ink.lay(0, 0);
        ink.paint(0, 0, 9);
        Due.is("what is not dark is no stain", ink.mark(0), 0);
        LeafInk mean = Due.leaf("L21 19 B 99");
        mean.table(9, 2);
        Due.is("6 and 2 are less than 10", mean.mark(0), 2);
        mean.table(9, 3);
        Due.is("8 and 2 are not", mean.mark(0), 1);
        LeafInk spread = Due.leaf("L51 86425 B 99999");
        spread.rule(1, 2, 4);
        spread.table(9, 1);
        Due.is("by a grey more 25 is not less than 25", spread.mark(2), 1);
        // DOT 3: N 4, S 17, Q 81, and 12 by a grey more: 2500 against 560.
        Due.is("by a grey more it still is dark", spread.mark(3), 2);
    }

    private static void markRefusals() {
        unknownDots("mark", LeafInk::mark);
        Twins.asked("mark(0)", Twins::rich, ink -> ink.mark(0), Twins.rich().mark(0));
    }

    // "UNDER DOT (x, y) .. lies DOT (w less 1, less x, and dx; y and dy) of the BACK, if there is one."
    private static void underEveryLie() {
        int[][] forms = {{1, 1}, {5, 1}, {1, 5}, {3, 2}, {5, 5}};
        for (int[] form : forms) {
            int w = form[0];
            int h = form[1];
            for (int lie = 0; lie < 9; lie++) {
                LeafInk ink = Due.even(w, h, 0, 0);
                int dx = lie / 3 - 1;
                int dy = lie % 3 - 1;
                ink.lay(dx, dy);
                for (int dot = 0; dot < w * h; dot++) {
                    int x = w - 1 - dot % w + dx;
                    int y = dot / w + dy;
                    boolean there = x >= 0 && x <= w - 1 && y >= 0 && y <= h - 1;
                    Due.is("under(" + dot + ") of " + w + " by " + h + ", lie " + dx + ", " + dy, ink.under(dot),
                            there ? y * w + x : NONE);
                }
            }
        }
        LeafInk ink = Due.leaf("L32 000000 B 000000");
        ink.lay(1, 1);
        Due.is("beyond the right edge", ink.under(0), NONE);
        Due.is("the last column, a row below", ink.under(1), 5);
        Due.is("below the last row", ink.under(4), NONE);
        ink.lay(-1, -1);
        Due.is("beyond the left edge", ink.under(5), NONE);
        Due.is("the first column, a row above", ink.under(4), 0);
        Due.is("above the first row", ink.under(1), NONE);
    }

    private static void underRefusals() {
        unknownDots("under", LeafInk::under);
        Twins.asked("under(0) where there is none", Twins::rich, ink -> ink.under(0), NONE);
        Twins.asked("under(4)", Twins::rich, ink -> ink.under(4), 2);
    }

    // "n or less of them: they are not left as INK where SPECKS of n are taken away"
    private static void cleanedFromNoneToAll() {
        for (int many = 1; many <= 25; many++) {
            LeafInk ink = Due.even(5, 5, 9, 9);
            ink.rule(2, 0, 1);
            for (int dot = 0; dot < 25; dot++) {
                // Row by row to and fro, so that those that are black always hang together.
                int along = dot / 5 % 2 == 0 ? dot % 5 : 4 - dot % 5;
                if (dot / 5 * 5 + along < many) {
                    ink.paint(0, dot, 0);
                }
            }
            int bits = ink.cleaned(0);
            Due.is("all of " + many, Integer.bitCount(bits), many);
            Due.is("one less than " + many, ink.cleaned(many - 1), bits);
            Due.is("just " + many, ink.cleaned(many), 0);
            Due.is("25 at most", ink.cleaned(25), 0);
        }
        LeafInk all = Due.even(5, 5, 0, 9);
        all.rule(2, 0, 1);
        Due.is("cleaned(24) of all", all.cleaned(24), 33554431);
        Due.is("cleaned(25) of all", all.cleaned(25), 0);
        LeafInk none = Due.even(5, 5, 9, 9);
        Due.is("cleaned(0) of none", none.cleaned(0), 0);
        LeafInk apart = Due.even(5, 5, 9, 9);
        apart.rule(2, 0, 1);
        for (int dot = 0; dot < 25; dot += dot % 5 == 4 ? 6 : 2) {
            apart.paint(0, dot, 0);
        }
        Due.is("nine specks of one", apart.cleaned(0), 22020096 + 21504 + 21);
        Due.is("nine specks are taken away", apart.cleaned(1), 0);
    }

    // "beside, above, below or by corners", and not over the edge
    private static void cleanedRowsApart() {
        for (int w = 1; w <= 5; w++) {
            int h = w == 1 ? 5 : 3;
            for (int one = 0; one < w * h; one++) {
                for (int other = one + 1; other < w * h; other++) {
                    LeafInk ink = Due.even(w, h, 9, 9);
                    ink.rule(2, 0, 1);
                    ink.paint(0, one, 0);
                    ink.paint(0, other, 0);
                    boolean near = Math.abs(one % w - other % w) <= 1 && Math.abs(one / w - other / w) <= 1;
                    Due.is("dots " + one + " and " + other + " of width " + w, ink.cleaned(1),
                            near ? 1 << one | 1 << other : 0);
                }
            }
        }
        LeafInk stain = Due.leaf("L31 000 B 949");
        stain.rule(2, 0, 1);
        stain.table(4, 1);
        Due.is("a stain is no ink", stain.cleaned(0), 5);
        Due.is("and parts what is", stain.cleaned(1), 0);
    }

    // "that hang together": by whatever way round
    private static void cleanedOfEveryForm() {
        for (int form = 0; form < 512; form++) {
            StringBuilder greys = new StringBuilder();
            for (int dot = 0; dot < 9; dot++) {
                greys.append((form >> dot & 1) == 1 ? '0' : '9');
            }
            LeafInk ink = Due.leaf("L33" + greys + "B999999999");
            ink.rule(2, 0, 1);
            for (int n = 0; n <= 9; n++) {
                Due.is("cleaned(" + n + ") of " + greys, ink.cleaned(n), leftOfForm(form, n));
            }
        }
    }

    private static int leftOfForm(int form, int n) {
        int left = 0;
        for (int dot = 0; dot < 9; dot++) {
            boolean[] gone = new boolean[9];
            if (countFrom(dot % 3, dot / 3, form, gone) > n) {
                left |= 1 << dot;
            }
        }
        return left;
    }

    private static int countFrom(int x, int y, int form, boolean[] gone) {
        boolean there = x >= 0 && x <= 2 && y >= 0 && y <= 2;
        if (!there || gone[3 * y + x] || (form >> 3 * y + x & 1) == 0) {
            return 0;
        }
        gone[3 * y + x] = true;
        int many = 1;
        for (int way = 0; way < 9; way++) {
            many += countFrom(x + way % 3 - 1, y + way / 3 - 1, form, gone);
        }
        return many;
    }

    // "BAD: n (0 .. 25)."
    private static void cleanedRefusals() {
        Twins.refusedAt("cleaned", new int[] {-1, 26, MIN, MAX}, n -> ink -> ink.cleaned(n), BAD);
        Twins.asked("cleaned(0)", Twins::rich, ink -> ink.cleaned(0), Twins.rich().cleaned(0));
        Twins.asked("cleaned(25)", Twins::rich, ink -> ink.cleaned(25), 0);
    }
}
