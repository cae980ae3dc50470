/** Promises 20 to 23: what fits best, told doings, shares. */
public final class BestTest {
    public static void main(String[] args) {
        fits();
        bestLie();
        bestLieOfLikeOnes();
        mostAndFewest();
        badBest();
        judgedAlone();
        judgedInRow();
        judgedRefusals();
        shares();
        sharesByWindows();
        Due.end();
    }

    private static void fits() {
        LeafInk ink = Due.leaf("L21 13 B 52");
        fit(ink, 0, 0, 5, 2);
        fit(ink, 1, 0, 1, 1);
        fit(ink, -1, 0, 16, 1);
        for (int dx = -1; dx <= 1; dx++) {
            fit(ink, dx, 1, LeafInk.NONE, LeafInk.NONE);
            fit(ink, dx, -1, LeafInk.NONE, LeafInk.NONE);
        }
        ink.lay(1, 0);
        fit(ink, 0, 0, 5, 2);
        LeafInk like = Due.leaf("L21 12 B 21");
        fit(like, 0, 0, 0, 1);
        Due.is("fit(2, 0)", ink.fit(2, 0, true), LeafInk.BAD);
        Due.is("fit(-2, 0)", ink.fit(-2, 0, false), LeafInk.BAD);
        Due.is("fit(0, 2)", ink.fit(0, 2, true), LeafInk.BAD);
        Due.is("fit(0, -2)", ink.fit(0, -2, false), LeafInk.BAD);
    }

    private static void fit(LeafInk ink, int dx, int dy, int above, int below) {
        Due.fraction("fit(" + dx + ", " + dy + ")", () -> ink.fit(dx, dy, true), () -> ink.fit(dx, dy, false),
                above, below);
    }

    private static void bestLie() {
        LeafInk ink = Due.leaf("L21 13 B 52");
        Due.is("best(0)", ink.best(0), 21);
        Due.is("the lie stays", ink.about(9), 11);
        Due.is("no doing", ink.about(10), 0);
        LeafInk apart = Due.leaf("L33 999 999 339 B 999 999 999");
        fit(apart, 0, 0, 8, 1);
        Due.is("best(0) leaves the dark row out", apart.best(0), 2);
        LeafInk fewer = Due.leaf("L21 15 B 43");
        fit(fewer, 0, 0, 5, 2);
        fit(fewer, 1, 0, 4, 1);
        Due.is("best(0) is by the fraction, not by the squares together", fewer.best(0), 11);
        LeafInk turned = Due.leaf("L33 129 456 789 B 921 654 987");
        Due.is("best(0) of its own mirror", turned.best(0), 11);
    }

    private static void bestLieOfLikeOnes() {
        Due.is("best(0) of one grey", Due.leaf("L33 444444444 B 444444444").best(0), 0);
        Due.is("best(0) of one column", Due.leaf("L13 444 B 444").best(0), 10);
        Due.is("best(0) of one row", Due.leaf("L31 444 B 444").best(0), 1);
        Due.is("best(0) of one dot", new LeafInk().best(0), 11);
    }

    private static void mostAndFewest() {
        LeafInk ink = Due.leaf("L52 0123456789 B 9999999999");
        ink.rule(2, 2, 5);
        Due.is("most by rule 2", ink.best(1), 9);
        Due.is("fewest by rule 2", ink.best(2), 1);
        Due.is("the rule stays", ink.about(6), 2);
        Due.is("the reach stays", ink.about(7), 2);
        Due.is("the bound stays", ink.about(8), 5);
        Due.is("no doing more", ink.about(10), 1);
        LeafInk two = Due.leaf("L21 19 B 99");
        Due.is("most by rule 0", two.best(1), 10);
        Due.is("fewest by rule 0", two.best(2), 10);
        two.table(9, 3);
        // 2 times 4 and 2 times 0 are still less than 10: bound 0 alone leaves it ink
        Due.is("most with what shows through", two.best(1), 10);
        two.table(9, 9);
        Due.is("most of none", two.best(1), 0);
        Due.is("fewest of none", two.best(2), LeafInk.NONE);
        LeafInk far = Due.leaf("L51 55055 B 99999");
        Due.is("most of a row", far.best(1), 10);
        LeafInk wide = Due.leaf("L51 07770 B 99999");
        Due.is("most by windows", wide.best(1), 10);
        wide.paint(0, 4, 9);
        // reach 1, bound 0: the first dot, and the fourth one beside the 9; bound 1: the first one alone
        Due.is("fewest by windows", wide.best(2), 11);
    }

    private static void badBest() {
        LeafInk ink = new LeafInk();
        Due.is("best(-1)", ink.best(-1), LeafInk.BAD);
        Due.is("best(3)", ink.best(3), LeafInk.BAD);
        Due.is("best(1) of a white dot", ink.best(1), 0);
        Due.is("best(2) of a white dot", ink.best(2), LeafInk.NONE);
    }

    private static void judgedAlone() {
        LeafInk ink = Due.leaf("L22 0899 B 9999");
        ink.rule(2, 0, 5);
        long[] can = {10000, 10039, 11030, 11009, 20900, 30000, 32290, 40000, 49900, 50000, 52200,
            60001, 60010, 60020, 60030, 70000, 70010};
        long[] cannot = {0, 1, 12000, 13000, 19000, 10040, 11040, 10250, 10990, 20800, 21000, 21800, 20000, 21900,
            29900, 20901, 20910, 33000, 30300, 30001, 32299, 40001, 40010, 49990, 53000, 50300, 50001, 50010,
            60000, 60011, 60002, 60012, 60040, 60041, 61001, 61010, 69001, 70020, 70990, 70001, 70011, 71010,
            71000, 80000, 90000, 99999};
        for (long told : can) {
            Due.is("judge(1, " + told + ")", ink.judge(1, told), LeafInk.NONE);
        }
        for (long told : cannot) {
            Due.is("judge(1, " + told + ")", ink.judge(1, told), 0);
        }
        Due.is("doings are as they were", ink.about(10), 1);
        Due.is("greys are as they were", ink.about(5), 26);
        LeafInk black = Due.leaf("L11 0 B 0");
        Due.is("light by 9", black.judge(1, 21800), LeafInk.NONE);
        Due.is("light by -1", black.judge(1, 20800), 0);
        Due.is("darker by 9", new LeafInk().judge(1, 20000), LeafInk.NONE);
    }

    private static void judgedInRow() {
        LeafInk ink = Due.leaf("L22 0899 B 9999");
        ink.rule(2, 0, 5);
        Due.is("painted white, it is no ink", ink.judge(2, 10009_60001L), 1);
        Due.is("it is not", ink.judge(2, 10009_60000L), LeafInk.NONE);
        Due.is("two painted black, three are ink", ink.judge(3, 10030_10020_70030L), LeafInk.NONE);
        Due.is("not four", ink.judge(3, 10030_10020_70040L), 2);
        Due.is("lit twice, once too much", ink.judge(3, 10001_20800_20700L), 2);
        Due.is("lit by -1 twice", ink.judge(3, 10001_20800_20800L), 2);
        Due.is("lit by -1 after painting", ink.judge(2, 10001_20800L), LeafInk.NONE);
        Due.is("another bound", ink.judge(2, 32090_70020L), LeafInk.NONE);
        Due.is("the table makes a stain", ink.judge(2, 49500_60000L), LeafInk.NONE);
        Due.is("but not where none lies under it", ink.judge(3, 49500_52100_60001L), LeafInk.NONE);
        Due.is("the back painted", ink.judge(3, 49500_11010_60001L), LeafInk.NONE);
        Due.is("the first that can not be", ink.judge(3, 60001_99999_99999L), 1);
        Due.is("figures that are not told are 0", ink.judge(2, 70000), 0);
        Due.is("the table is as it was", ink.shows(9), 0);
        Due.is("the back is as it was", ink.grey(1, 1), 9);
        Due.is("the lie is as it was", ink.about(9), 11);
        Due.is("the bound is as it was", ink.about(8), 5);
    }

    private static void judgedRefusals() {
        LeafInk ink = new LeafInk();
        Due.is("judge(0, 0)", ink.judge(0, 0), LeafInk.BAD);
        Due.is("judge(4, 0)", ink.judge(4, 0), LeafInk.BAD);
        Due.is("judge(-1, 0)", ink.judge(-1, 0), LeafInk.BAD);
        Due.is("judge(MAX, 0)", ink.judge(Integer.MAX_VALUE, 0), LeafInk.BAD);
        Due.is("judge(1, -1)", ink.judge(1, -1), LeafInk.BAD);
        Due.is("judge(1, 99999)", ink.judge(1, 99999), 0);
        Due.is("judge(1, 100000)", ink.judge(1, 100000), LeafInk.BAD);
        Due.is("judge(2, 9999999999)", ink.judge(2, 9999999999L), 0);
        Due.is("judge(2, 10000000000)", ink.judge(2, 10000000000L), LeafInk.BAD);
        Due.is("judge(3, 999999999999999)", ink.judge(3, 999999999999999L), 0);
        Due.is("judge(3, 1000000000000000)", ink.judge(3, 1000000000000000L), LeafInk.BAD);
        Due.is("judge(3, MAX)", ink.judge(3, Long.MAX_VALUE), LeafInk.BAD);
        Due.is("judge(3, MIN)", ink.judge(3, Long.MIN_VALUE), LeafInk.BAD);
    }

    private static void shares() {
        LeafInk ink = Due.leaf("L33 019 999 000 B 999999999");
        ink.rule(2, 0, 5);
        share(ink, 0, 2, 1);
        share(ink, 1, 0, 1);
        share(ink, 2, 3, 1);
        Due.is("share(3)", ink.share(3, true), LeafInk.UNKNOWN);
        Due.is("share(-1)", ink.share(-1, false), LeafInk.UNKNOWN);
        Due.is("greys are as they were", ink.about(5), 37);
    }

    private static void sharesByWindows() {
        LeafInk two = Due.leaf("L12 13 B 99");
        two.rule(0, 1, 0);
        share(two, 0, 1, 2);
        share(two, 1, 1, 2);
        LeafInk less = Due.leaf("L32 888 909 B 999999");
        less.rule(0, 1, 0);
        share(less, 0, 3, 2);
        share(less, 1, -1, 2);
        LeafInk three = Due.leaf("L13 048 B 999");
        three.rule(0, 2, 0);
        // INK when these rows have come, and the mean of greys where it matters:
        // {0}: 1, {1}: 1, {2}: 1, {0,1}: 13 by 3: 2, {0,2}: 17 by 3: 1, {1,2}: 7: 1, all: 4: 1.
        // Row 0 brings 1 as the first, 1 behind row 1, 0 behind row 2, 0 as the last: (2 and 1) by 6.
        share(three, 0, 1, 2);
        // Row 1 brings 1 as the first, 1 behind row 0, 0 behind row 2, 0 as the last.
        share(three, 1, 1, 2);
        // Row 2 brings 1 as the first, 0 as the second, -1 as the last: (2, less 2) by 6.
        share(three, 2, 0, 1);
    }

    private static void share(LeafInk ink, int row, int above, int below) {
        Due.fraction("share(" + row + ")", () -> ink.share(row, true), () -> ink.share(row, false), above, below);
    }
}
