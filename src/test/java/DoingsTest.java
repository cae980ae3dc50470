/** Promises 14 to 19: doings, and how they are undone. */
public final class DoingsTest {
    public static void main(String[] args) {
        painting();
        lighting();
        ruling();
        tabling();
        laying();
        undoing();
        firstIsForgotten();
        likeDoingsCount();
        Due.end();
    }

    private static void painting() {
        LeafInk ink = Due.leaf("L21 19 B 45");
        Due.is("paint(0, 0, 7)", ink.paint(0, 0, 7), 1);
        Due.is("grey then", ink.grey(0, 0), 7);
        Due.is("the other one", ink.grey(0, 1), 9);
        Due.is("the window then", ink.window(1, 1), 16);
        Due.is("paint(1, 1, 0)", ink.paint(1, 1, 0), 5);
        Due.is("grey of the back then", ink.grey(1, 1), 0);
        Due.is("the leaf's then", ink.grey(0, 1), 9);
        Due.is("doings", ink.about(10), 2);
        Due.is("paint(0, 0, 9)", ink.paint(0, 0, 9), 7);
        Due.is("paint(0, 0, 0)", ink.paint(0, 0, 0), 9);
        Due.is("paint(2, 0, 1)", ink.paint(2, 0, 1), LeafInk.UNKNOWN);
        Due.is("paint(-1, 0, 1)", ink.paint(-1, 0, 1), LeafInk.UNKNOWN);
        Due.is("paint(0, 2, 1)", ink.paint(0, 2, 1), LeafInk.UNKNOWN);
        Due.is("paint(1, -1, 1)", ink.paint(1, -1, 1), LeafInk.UNKNOWN);
        Due.is("paint(1, 2, 10)", ink.paint(1, 2, 10), LeafInk.UNKNOWN);
        Due.is("paint(0, 0, 10)", ink.paint(0, 0, 10), LeafInk.BAD);
        Due.is("paint(1, 1, -1)", ink.paint(1, 1, -1), LeafInk.BAD);
        Due.is("doings after refusals", ink.about(10), 4);
        Due.is("greys after refusals", ink.about(5), 9);
    }

    private static void lighting() {
        LeafInk ink = Due.leaf("L22 1234 B 0909");
        Due.is("light(5)", ink.light(5), 30);
        Due.is("grey then", ink.grey(0, 3), 9);
        Due.is("the back stays", ink.grey(1, 1), 9);
        Due.is("light(1)", ink.light(1), LeafInk.LATE);
        Due.is("light(-6)", ink.light(-6), 6);
        Due.is("light(-1)", ink.light(-1), LeafInk.LATE);
        Due.is("light(0)", ink.light(0), 6);
        Due.is("light(10)", ink.light(10), LeafInk.BAD);
        Due.is("light(-10)", ink.light(-10), LeafInk.BAD);
        Due.is("light(MIN)", ink.light(Integer.MIN_VALUE), LeafInk.BAD);
        Due.is("doings", ink.about(10), 3);
        Due.is("greys after refusals", ink.about(5), 6);
        LeafInk white = new LeafInk();
        Due.is("light(-9)", white.light(-9), 0);
        Due.is("light(9)", white.light(9), 9);
    }

    private static void ruling() {
        LeafInk ink = Due.leaf("L31 048 B 999");
        Due.is("rule(2, 0, 5)", ink.rule(2, 0, 5), 2);
        Due.is("the rule then", ink.about(6), 2);
        Due.is("the reach then", ink.about(7), 0);
        Due.is("the bound then", ink.about(8), 5);
        Due.is("rule(0, 1, 0)", ink.rule(0, 1, 0), 1);
        Due.is("rule(1, 2, 9)", ink.rule(1, 2, 9), 1);
        Due.is("rule(3, 0, 0)", ink.rule(3, 0, 0), LeafInk.BAD);
        Due.is("rule(-1, 0, 0)", ink.rule(-1, 0, 0), LeafInk.BAD);
        Due.is("rule(0, 3, 0)", ink.rule(0, 3, 0), LeafInk.BAD);
        Due.is("rule(0, -1, 0)", ink.rule(0, -1, 0), LeafInk.BAD);
        Due.is("rule(0, 0, 10)", ink.rule(0, 0, 10), LeafInk.BAD);
        Due.is("rule(0, 0, -1)", ink.rule(0, 0, -1), LeafInk.BAD);
        Due.is("doings", ink.about(10), 3);
        Due.is("the rule after refusals", ink.about(6), 1);
    }

    private static void tabling() {
        LeafInk ink = new LeafInk();
        Due.is("table(9, 4)", ink.table(9, 4), 0);
        Due.is("table(9, 0)", ink.table(9, 0), 4);
        Due.is("table(0, 9)", ink.table(0, 9), 0);
        Due.is("shows(0)", ink.shows(0), 9);
        Due.is("shows(9)", ink.shows(9), 0);
        Due.is("table(10, 0)", ink.table(10, 0), LeafInk.BAD);
        Due.is("table(-1, 0)", ink.table(-1, 0), LeafInk.BAD);
        Due.is("table(0, 10)", ink.table(0, 10), LeafInk.BAD);
        Due.is("table(0, -1)", ink.table(0, -1), LeafInk.BAD);
        Due.is("doings", ink.about(10), 3);
        Due.is("shows(0) after refusals", ink.shows(0), 9);
    }

    private static void laying() {
        LeafInk ink = Due.leaf("L22 0000 B 4999");
        ink.rule(2, 0, 1);
        ink.table(4, 1);
        Due.is("one stain at first", ink.about(3), 1);
        Due.is("lay(1, 0)", ink.lay(1, 0), 4);
        Due.is("lay(-1, 0)", ink.lay(-1, 0), 3);
        Due.is("lay(0, 1)", ink.lay(0, 1), 4);
        Due.is("lay(0, -1)", ink.lay(0, -1), 3);
        Due.is("the lie", ink.about(9), 10);
        Due.is("lay(2, 0)", ink.lay(2, 0), LeafInk.BAD);
        Due.is("lay(-2, 0)", ink.lay(-2, 0), LeafInk.BAD);
        Due.is("lay(0, 2)", ink.lay(0, 2), LeafInk.BAD);
        Due.is("lay(0, -2)", ink.lay(0, -2), LeafInk.BAD);
        Due.is("the lie after refusals", ink.about(9), 10);
        Due.is("doings", ink.about(10), 6);
    }

    private static void undoing() {
        LeafInk ink = Due.leaf("L21 19 B 45");
        ink.paint(0, 0, 3);
        ink.paint(1, 1, 6);
        ink.light(-2);
        ink.rule(1, 2, 7);
        ink.table(5, 8);
        ink.table(5, 2);
        ink.lay(-1, 1);
        ink.paint(0, 1, 0);
        Due.is("undo() of a dot", ink.undo(), 7);
        Due.is("its grey", ink.grey(0, 1), 7);
        Due.is("the lie still", ink.about(9), 2);
        Due.is("undo() of a lie", ink.undo(), 6);
        Due.is("the lie", ink.about(9), 11);
        Due.is("undo() of a number", ink.undo(), 5);
        Due.is("the number", ink.shows(5), 8);
        Due.is("undo() of its first one", ink.undo(), 4);
        Due.is("the number at first", ink.shows(5), 0);
        Due.is("undo() of a rule", ink.undo(), 3);
        Due.is("the rule", ink.about(6), 0);
        Due.is("the reach", ink.about(7), 1);
        Due.is("the bound", ink.about(8), 1);
        Due.is("greys", ink.about(5), 8);
        Due.is("undo() of light", ink.undo(), 2);
        Due.is("greys then", ink.about(5), 12);
        Due.is("undo() of a dot of the back", ink.undo(), 1);
        Due.is("its grey then", ink.grey(1, 1), 5);
        Due.is("undo() of the first", ink.undo(), 0);
        Due.is("grey as at first", ink.grey(0, 0), 1);
        Due.is("undo() of nothing", ink.undo(), LeafInk.LATE);
        Due.is("doings", ink.about(10), 0);
    }

    private static void firstIsForgotten() {
        LeafInk ink = new LeafInk();
        ink.rule(2, 2, 9);
        ink.lay(1, 1);
        for (int grey = 0; grey < 10; grey++) {
            ink.table(grey, 1);
        }
        for (int v = 8; v > 4; v--) {
            ink.paint(0, 0, v);
        }
        Due.is("doings", ink.about(10), 14);
        for (int left = 13; left >= 0; left--) {
            Due.is("undo()", ink.undo(), left);
        }
        Due.is("undo() of nothing", ink.undo(), LeafInk.LATE);
        Due.is("the rule is not undone", ink.about(6), 2);
        Due.is("the lie is not undone", ink.about(9), 22);
        Due.is("the table is", ink.shows(0), 0);
        Due.is("the dot is", ink.grey(0, 0), 9);
        ink.paint(0, 0, 1);
        Due.is("doings after all that", ink.about(10), 1);
    }

    private static void likeDoingsCount() {
        LeafInk ink = new LeafInk();
        ink.paint(0, 0, 9);
        ink.light(0);
        ink.rule(0, 1, 1);
        ink.table(3, 0);
        ink.lay(0, 0);
        Due.is("doings that change nothing are doings", ink.about(10), 5);
    }
}
