/** The edges of promises 20 to 23: FIT, the best ones, told doings, SHARES. */
public final class EdgeBestTest {
    private static final int BAD = LeafInk.BAD, UNKNOWN = LeafInk.UNKNOWN, NONE = LeafInk.NONE;
    private static final int MIN = Integer.MIN_VALUE, MAX = Integer.MAX_VALUE;

    public static void main(String[] args) {
        fitFromLeastToMost();
        fitOfNoDots();
        fitOfEveryLie();
        fitBad();
        bestLieOfEach();
        bestLieOfLikeOnes();
        mostOfLikeOnes();
        fewestButOneAtLeast();
        bestBad();
        judgeBad();
        judgeFigures();
        judgePainted();
        judgeLit();
        judgeRuled();
        judgeTabled();
        judgeLaid();
        judgeOneMarked();
        judgeManyInk();
        judgeOtherKinds();
        judgeTellsTheFirst();
        judgeOneBehindTheOther();
        judgeChangesNothing();
        shareOfOneRowAndOfFive();
        shareBelowNothing();
        shareUnknown();
        Due.end();
    }

    // ---- fit

    private static void fit(LeafInk ink, int dx, int dy, int above, int below) {
        Due.is("fit(" + dx + ", " + dy + ") above", ink.fit(dx, dy, true), above);
        Due.is("fit(" + dx + ", " + dy + ") below", ink.fit(dx, dy, false), below);
    }

    private static void fitFromLeastToMost() {
        fit(Due.even(5, 5, 4, 4), 0, 0, 0, 1);
        fit(Due.even(5, 5, 0, 9), 0, 0, 81, 1);
        fit(Due.even(5, 5, 9, 0), 1, 1, 81, 1);
        LeafInk one = Due.even(5, 5, 4, 4);
        one.paint(0, 24, 5);
        fit(one, 0, 0, 1, 25);
        // DOT 24 has one UNDER it by dx 1, and none by dy 1.
        fit(one, 1, 0, 1, 20);
        fit(one, 1, -1, 1, 16);
        fit(one, 1, 1, 0, 1);
        one.paint(0, 24, 6);
        fit(one, 1, -1, 1, 4);
    }

    // "(there are none: NONE)"
    private static void fitOfNoDots() {
        for (int length = 1; length <= 5; length++) {
            LeafInk row = Due.even(length, 1, 3, 5);
            LeafInk column = Due.even(1, length, 3, 5);
            for (int across = -1; across <= 1; across++) {
                for (int along = -1; along <= 1; along++) {
                    boolean none = across != 0 || (along != 0 && length == 1);
                    fit(row, along, across, none ? NONE : 4, none ? NONE : 1);
                    fit(column, across, along, none ? NONE : 4, none ? NONE : 1);
                }
            }
        }
    }

    private static void fitOfEveryLie() {
        // Each DOT of the BACK but one is like THE LEAF's, so that the FIT tells how many there are.
        for (int dx = -1; dx <= 1; dx++) {
            for (int dy = -1; dy <= 1; dy++) {
                LeafInk ink = Due.even(5, 5, 0, 0);
                ink.paint(1, 12, 1);
                fit(ink, dx, dy, 1, (5 - Math.abs(dx)) * (5 - Math.abs(dy)));
                ink.lay(-dx, -dy);
                fit(ink, dx, dy, 1, (5 - Math.abs(dx)) * (5 - Math.abs(dy)));
            }
        }
    }

    // "BAD: dx, dy.", also where there would be none
    private static void fitBad() {
        for (boolean upper : new boolean[] {true, false}) {
            Twins.refusedAt("fit by dx", new int[] {-2, 2, MIN, MAX}, dx -> ink -> ink.fit(dx, 0, upper), BAD);
            Twins.refusedAt("fit by dy", new int[] {-2, 2, MIN, MAX}, dy -> ink -> ink.fit(0, dy, upper), BAD);
            Twins.refusedAt("fit by 1 and dy", new int[] {-2, 2}, dy -> ink -> ink.fit(1, dy, upper), BAD);
            Twins.refused("fit(2, 2)", ink -> ink.fit(2, 2, upper), BAD);
            Twins.asked("fit where there is none", LeafInk::new, ink -> ink.fit(1, 1, upper), NONE);
            Twins.asked("fit(-1, -1)", Twins::rich, ink -> ink.fit(-1, -1, upper), upper ? 16 : 1);
        }
    }

    // ---- best

    // "BEST LIE: that of least FIT"
    private static void bestLieOfEach() {
        bestLie("L32 100123 B 200303", 0);
        bestLie("L33 032220110 B 200322123", 1);
        bestLie("L32 120200 B 322330", 2);
        bestLie("L33 023312312 B 233013001", 10);
        bestLie("L33 696209498 B 372540635", 11);
        bestLie("L33 061865006 B 998461989", 12);
        bestLie("L23 378897 B 366500", 20);
        bestLie("L23 321300 B 320220", 21);
        bestLie("L33 033123212 B 030022332", 22);
    }

    // "of like ones by dx, then by dy the least first"
    private static void bestLieOfLikeOnes() {
        bestLie("L33 444444444 B 444444444", 0);
        bestLie("L13 444 B 444", 10);
        bestLie("L31 444 B 444", 1);
        bestLie("L11 0 B 9", 11);
        // By -1, 1 the FIT is 1 by 2, by 0, -1 it is 2 by 4.
        bestLie("L23 201332 B 313211", 2);
        // By 0, 1 and by 1, -1 alike.
        bestLie("L22 3023 B 0212", 12);
        // By dy -1 and dy 1 alike, for each dx.
        bestLie("L22 6647 B 1131", 0);
        bestLie("L33 133321002 B 333310112", 10);
        bestLie("L22 7711 B 6349", 20);
        // By dy 0 and dy 1 alike, and by dy -1 and dy 0.
        bestLie("L33 122133020 B 201123130", 11);
        bestLie("L32 031121 B 230331", 10);
    }

    private static void bestLie(String letters, int due) {
        LeafInk ink = Due.leaf(letters);
        Due.is("best(0) of " + letters, ink.best(0), due);
        ink.lay(1, 1);
        Due.is("best(0) of " + letters + " laid anew", ink.best(0), due);
        Due.is("the lie stays", ink.about(9), 22);
    }

    // "of like ones the least REACH, then the least BOUND"
    private static void mostOfLikeOnes() {
        Due.is("most of a white dot", new LeafInk().best(1), 0);
        LeafInk black = Due.even(5, 5, 0, 9);
        black.rule(2, 2, 9);
        Due.is("bounds 1 to 9 alike", black.best(1), 1);
        black.light(8);
        Due.is("the last bound alone", black.best(1), 9);
        black.light(1);
        Due.is("none by any", black.best(1), 0);
        LeafInk two = Due.leaf("L21 19 B 99");
        Due.is("reaches 1 and 2 alike", two.best(1), 10);
        Due.is("reach 2 alone", Due.leaf("L13 311 B 999").best(1), 20);
        // By a REACH of 3 three would be INK, and there is none such.
        Due.is("reach 2 is the last one", Due.leaf("L51 00001 B 99999").best(1), 20);
        LeafInk stained = Due.leaf("L11 1 B 2");
        stained.rule(2, 0, 0);
        stained.table(2, 5);
        // By BOUNDS 2 .. 6 it is a STAIN, by 7 and more INK.
        Due.is("the first bound that is no stain", stained.best(1), 7);
    }

    // "FEWEST: by which fewest, but one at least"; "NONE: there is none so."
    private static void fewestButOneAtLeast() {
        Due.is("fewest of a white dot", new LeafInk().best(2), NONE);
        LeafInk black = Due.even(5, 5, 0, 9);
        Due.is("fewest of an even leaf by the mean", black.best(2), NONE);
        black.rule(2, 0, 0);
        Due.is("bound 0 has none, 1 has 25", black.best(2), 1);
        black.paint(0, 7, 8);
        Due.is("24 before 25", black.best(2), 1);
        LeafInk one = Due.even(5, 5, 8, 9);
        one.rule(2, 0, 0);
        Due.is("by bound 9 all", one.best(2), 9);
        one.paint(0, 24, 3);
        Due.is("by bound 4 one", one.best(2), 4);
        LeafInk last = Due.leaf("L41 2380 B 5794");
        last.rule(1, 0, 0);
        last.table(8, 5);
        last.table(9, 9);
        // By REACH 1 two are INK by all BOUNDS; by REACH 2 one of them is by 81 times 62 no more DARK.
        Due.is("the last reach and bound", last.best(2), 29);
        // By REACH 1, BOUND 0 two are INK; by a REACH of 3 and BOUND 1 one would be.
        Due.is("there is no reach beyond 2", Due.leaf("L51 00114 B 99999").best(2), 10);
        LeafInk stained = Due.leaf("L21 19 B 99");
        stained.table(9, 9);
        Due.is("stains are none", stained.best(2), NONE);
    }

    // "BAD.", also where there is none
    private static void bestBad() {
        Twins.refusedAt("best", new int[] {-1, 3, MIN, MAX}, what -> ink -> ink.best(what), BAD);
        Twins.asked("best(0)", Twins::rich, ink -> ink.best(0), Twins.rich().best(0));
        Twins.asked("best(1)", Twins::rich, ink -> ink.best(1), 7);
        Twins.asked("best(2)", Twins::rich, ink -> ink.best(2), 2);
        Twins.asked("best(2) where there is none", LeafInk::new, ink -> ink.best(2), NONE);
    }

    // ---- judge

    // "BAD: n, row (0 or more, 5 n figures at most)."
    private static void judgeBad() {
        long[] rows = {0, 70000, -1, Long.MIN_VALUE, Long.MAX_VALUE};
        for (long row : rows) {
            Twins.refusedAt("judge " + row + " of", new int[] {0, 4, -1, MIN, MAX}, n -> ink -> ink.judge(n, row), BAD);
        }
        long first = 1;
        for (int n = 1; n <= 3; n++) {
            int many = n;
            first *= 100000;
            for (long row : new long[] {-1, -70000, Long.MIN_VALUE, first, first + 1, Long.MAX_VALUE}) {
                Twins.refused("judge(" + n + ", " + row + ")", ink -> ink.judge(many, row), BAD);
            }
            long last = first - 1;
            Twins.refused("judge(" + n + ", " + last + ")", ink -> ink.judge(many, last), 0);
            Twins.refused("judge(" + n + ", 0)", ink -> ink.judge(many, 0), 0);
        }
    }

    // "told as five figures each", from the first one on
    private static void judgeFigures() {
        LeafInk ink = new LeafInk();
        Due.is("one", ink.judge(1, 70000), NONE);
        Due.is("two", ink.judge(2, 70000_70000L), NONE);
        Due.is("three", ink.judge(3, 70000_70000_70000L), NONE);
        Due.is("the first one is 00000", ink.judge(2, 70000), 0);
        Due.is("the first one is 00000 of three", ink.judge(3, 70000_70000L), 0);
        Due.is("the last one of two", ink.judge(2, 70000_00000L), 1);
        Due.is("the second one of three", ink.judge(3, 70000_00000_70000L), 1);
        Due.is("the last one of three", ink.judge(3, 70000_70000_00000L), 2);
    }

    private static void judged(LeafInk ink, long told, boolean can) {
        Due.is("judge(1, " + told + ")", ink.judge(1, told), can ? NONE : 0);
    }

    // "1, a side 0, 1, two figures a DOT, v: PAINTED"
    private static void judgePainted() {
        LeafInk small = new LeafInk();
        LeafInk ink = Due.leaf("L34 000000000000 B 000000000000");
        LeafInk large = Due.even(5, 5, 0, 0);
        for (int side = 0; side <= 9; side++) {
            for (int v = 0; v <= 9; v++) {
                judged(ink, 10110 + 1000 * side + v, side <= 1);
            }
        }
        for (int dot = 0; dot <= 99; dot++) {
            judged(small, 10005 + 10 * dot, dot < 1);
            judged(ink, 10005 + 10 * dot, dot < 12);
            judged(ink, 11005 + 10 * dot, dot < 12);
            judged(large, 11005 + 10 * dot, dot < 25);
        }
    }

    // "2, d and 9 by two figures, 00: LIT"
    private static void judgeLit() {
        for (int grey = 0; grey <= 9; grey++) {
            LeafInk ink = Due.leaf("L21 55 B 55");
            ink.paint(0, 1, grey);
            for (int told = 0; told <= 99; told++) {
                int d = told - 9;
                boolean can = d <= 9 && grey + d >= 0 && grey + d <= 9 && 5 + d >= 0 && 5 + d <= 9;
                judged(ink, 20000 + 100 * told, can);
            }
            zerosBehind(ink, 20900);
        }
        judged(new LeafInk(), 20000, true);
        judged(Due.even(1, 1, 0, 0), 21800, true);
        judged(Due.even(1, 1, 0, 0), 21900, false);
    }

    // Of what is told 00 each other figure is one that can not be.
    private static void zerosBehind(LeafInk ink, int told) {
        for (int figures = 0; figures <= 99; figures++) {
            judged(ink, told + figures, figures == 0);
        }
    }

    // "3, a RULE, a REACH, a BOUND, 0: RULED"
    private static void judgeRuled() {
        LeafInk ink = new LeafInk();
        for (int figure = 0; figure <= 9; figure++) {
            judged(ink, 30110 + 1000 * figure, figure <= 2);
            judged(ink, 31010 + 100 * figure, figure <= 2);
            judged(ink, 31100 + 10 * figure, true);
            judged(ink, 31110 + figure, figure == 0);
        }
        judged(ink, 32290, true);
        judged(ink, 33390, false);
    }

    // "4, a GREY, a number, 00: TABLED"
    private static void judgeTabled() {
        LeafInk ink = new LeafInk();
        for (int figures = 0; figures <= 99; figures++) {
            judged(ink, 40000 + 100 * figures, true);
        }
        zerosBehind(ink, 49900);
    }

    // "5, dx and 1, dy and 1, 00: LAID"
    private static void judgeLaid() {
        LeafInk ink = new LeafInk();
        for (int figures = 0; figures <= 99; figures++) {
            judged(ink, 50000 + 100 * figures, figures / 10 <= 2 && figures % 10 <= 2);
        }
        zerosBehind(ink, 52200);
        zerosBehind(ink, 50000);
    }

    // "6, 0, two figures a DOT, v: it is INK (1), or not (0)"
    private static void judgeOneMarked() {
        LeafInk ink = Due.leaf("L43 000000999990 B 555555555555");
        ink.rule(2, 0, 1);
        ink.table(5, 1);
        ink.lay(0, 1);
        // Each DOT of the first two rows has one UNDER it: the black ones are STAINS there; DOT 11 is INK.
        for (int dot = 0; dot <= 99; dot++) {
            judged(ink, 60000 + 10 * dot, dot <= 10);
            judged(ink, 60001 + 10 * dot, dot == 11);
        }
        for (int v = 2; v <= 9; v++) {
            judged(ink, 60000 + v, false);
            judged(ink, 60110 + v, false);
        }
        for (int figure = 1; figure <= 9; figure++) {
            judged(ink, 60000 + 1000 * figure, false);
            judged(ink, 60111 + 1000 * figure, false);
        }
    }

    // "7, 0, two figures v, 0: so many DOTS or more are INK"
    private static void judgeManyInk() {
        LeafInk some = Due.leaf("L43 000000999990 B 555555555555");
        some.rule(2, 0, 1);
        LeafInk none = new LeafInk();
        LeafInk all = Due.even(5, 5, 0, 9);
        all.rule(2, 0, 1);
        for (int v = 0; v <= 99; v++) {
            judged(some, 70000 + 10 * v, v <= 7);
            judged(none, 70000 + 10 * v, v == 0);
            judged(all, 70000 + 10 * v, v <= 25);
        }
        for (int figure = 1; figure <= 9; figure++) {
            judged(some, 70010 + figure, false);
            judged(some, 70010 + 1000 * figure, false);
        }
    }

    private static void judgeOtherKinds() {
        LeafInk ink = Due.even(5, 5, 0, 9);
        for (int kind : new int[] {0, 8, 9}) {
            for (int figures = 0; figures <= 9999; figures += 1111) {
                judged(ink, 10000 * kind + figures, false);
            }
            judged(ink, 10000 * kind + 10, false);
        }
    }

    // "the place of the first that can not be (or is not so)"
    private static void judgeTellsTheFirst() {
        LeafInk ink = new LeafInk();
        long can = 70000;
        long cannot = 80000;
        for (int bits = 0; bits < 8; bits++) {
            long first = (bits & 1) == 0 ? can : cannot;
            long second = (bits & 2) == 0 ? can : cannot;
            long third = (bits & 4) == 0 ? can : cannot;
            int due = bits == 0 ? NONE : Integer.numberOfTrailingZeros(bits);
            Due.is("judge by " + bits, ink.judge(3, (first * 100000 + second) * 100000 + third), due);
        }
    }

    private static void judgeOneBehindTheOther() {
        LeafInk ink = Due.leaf("L22 0899 B 9999");
        ink.rule(2, 0, 5);
        Due.is("black is not made darker", ink.judge(1, 20800), 0);
        Due.is("what is painted 4 is, twice by 2", ink.judge(3, 10004_20700_20700L), NONE);
        Due.is("what is painted 3 is only once", ink.judge(3, 10003_20700_20700L), 2);
        Due.is("what was made darker can be made lighter", ink.judge(3, 10001_20800_21000L), NONE);
        Due.is("but not by more", ink.judge(3, 10001_20800_21100L), 2);
        Due.is("a bound that leaves none", ink.judge(2, 32000_70010L), 1);
        Due.is("a bound that takes two", ink.judge(2, 32090_70020L), NONE);
        Due.is("a bound that takes no three", ink.judge(2, 32090_70030L), 1);
        Due.is("a stain", ink.judge(2, 49500_60001L), 1);
        Due.is("a stain laid bare", ink.judge(3, 49500_51200_60001L), 2);
        Due.is("a stain laid bare to the side", ink.judge(3, 49500_52100_60001L), NONE);
        Due.is("the back painted under it", ink.judge(3, 49500_11018_60001L), NONE);
    }

    // "In what follows nothing is changed."
    private static void judgeChangesNothing() {
        long[] rows = {10005_11059_21000L, 32090_40900_52200L, 20800_31090_49900L, 10009_10019_80000L};
        int[] due = {NONE, NONE, NONE, 2};
        for (int place = 0; place < rows.length; place++) {
            long row = rows[place];
            Twins.asked("judge(3, " + row + ")", Twins::rich, ink -> ink.judge(3, row), due[place]);
        }
        Twins.asked("judge(1, 10000)", LeafInk::new, ink -> ink.judge(1, 10000), NONE);
        LeafInk twice = Due.leaf("L21 19 B 99");
        Due.is("painted black", twice.judge(2, 10010_60001L), 1);
        Due.is("and not any more the next time", twice.judge(1, 60001), NONE);
    }

    // ---- share

    private static void share(LeafInk ink, int row, int above, int below) {
        Due.is("share(" + row + ") above", ink.share(row, true), above);
        Due.is("share(" + row + ") below", ink.share(row, false), below);
    }

    private static void shareOfOneRowAndOfFive() {
        LeafInk one = Due.leaf("L51 09090 B 99999");
        one.rule(2, 0, 1);
        share(one, 0, 3, 1);
        share(new LeafInk(), 0, 0, 1);
        LeafInk five = Due.even(5, 5, 0, 9);
        five.rule(2, 0, 1);
        for (int row = 0; row <= 4; row++) {
            share(five, row, 5, 1);
        }
        five.light(9);
        for (int row = 0; row <= 4; row++) {
            share(five, row, 0, 1);
        }
        // Each row's INK by all 120 orders, by the Model; together they are the INK there is: 1, less 0.
        LeafInk column = Due.leaf("L15 72446 B 99999");
        column.rule(0, 2, 2);
        share(column, 0, -1, 20);
        share(column, 1, 8, 15);
        share(column, 2, 9, 20);
        share(column, 3, 17, 60);
        share(column, 4, -13, 60);
        Due.is("ink of all rows", column.about(4), 1);
        LeafInk lower = Due.even(1, 5, 0, 9);
        lower.rule(2, 0, 1);
        share(lower, 4, 1, 1);
        Due.retell(lower, "L12 09 B 99");
        lower.rule(2, 0, 1);
        // Rows that there were count no more.
        share(lower, 0, 1, 1);
        share(lower, 1, 0, 1);
        // What lies UNDER the first row is of the second row of the BACK, and shows through before that row has come.
        LeafInk stained = Due.leaf("L12 00 B 55");
        stained.rule(2, 0, 1);
        stained.table(5, 1);
        stained.lay(0, 1);
        share(stained, 0, 0, 1);
        share(stained, 1, 1, 1);
    }

    // "FRACTIONS are told above (upper = true; less than 0, if they are), below, in least terms."
    private static void shareBelowNothing() {
        LeafInk less = Due.leaf("L32 888 909 B 999999");
        less.rule(0, 1, 0);
        share(less, 0, 3, 2);
        share(less, 1, -1, 2);
        LeafInk three = Due.leaf("L13 048 B 999");
        three.rule(0, 2, 0);
        share(three, 0, 1, 2);
        share(three, 1, 1, 2);
        share(three, 2, 0, 1);
    }

    // "UNKNOWN.": there is no such row
    private static void shareUnknown() {
        for (boolean upper : new boolean[] {true, false}) {
            int[] rows = {-1, 2, 5, MIN, MAX};
            Twins.refusedAt("share of row", rows, row -> ink -> ink.share(row, upper), UNKNOWN);
            Due.is("a wide leaf has one row", Due.even(5, 1, 0, 0).share(1, upper), UNKNOWN);
            Due.is("a high leaf has five", Due.even(1, 5, 9, 0).share(4, upper), upper ? 0 : 1);
            Due.is("and no sixth", Due.even(1, 5, 9, 0).share(5, upper), UNKNOWN);
            Twins.asked("share(1)", Twins::rich, ink -> ink.share(1, upper), Twins.rich().share(1, upper));
        }
    }
}
