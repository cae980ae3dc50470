/** Promises 30 and 31: kept and gone on from. */
public final class SlotTest {
    public static void main(String[] args) {
        keeping();
        goingOn();
        whatIsNotKept();
        refusals();
        Due.end();
    }

    private static void keeping() {
        LeafInk ink = Due.leaf("L21 19 B 45");
        Due.is("keep(0)", ink.keep(0), 1);
        ink.rule(2, 0, 0);
        Due.is("keep(1)", ink.keep(1), 0);
        Due.is("doings stay when it is kept", ink.about(10), 1);
        Due.is("again(0)", ink.again(0), 1);
        Due.is("the rule of slot 0", ink.about(6), 0);
        Due.is("again(1)", ink.again(1), 0);
        Due.is("the rule of slot 1", ink.about(6), 2);
        ink.rule(2, 0, 2);
        Due.is("keep(0) over it", ink.keep(0), 1);
        ink.rule(1, 1, 1);
        ink.again(0);
        Due.is("the bound of slot 0 then", ink.about(8), 2);
    }

    private static void goingOn() {
        LeafInk ink = Due.leaf("L21 19 B 45");
        ink.paint(0, 0, 2);
        ink.paint(1, 0, 3);
        ink.rule(1, 2, 3);
        ink.table(4, 6);
        ink.lay(-1, 1);
        Due.is("keep(1)", ink.keep(1), 1);
        Due.is("doings", ink.about(10), 5);
        ink.light(-2);
        ink.paint(1, 0, 9);
        ink.paint(1, 1, 9);
        ink.rule(2, 0, 9);
        ink.table(4, 0);
        ink.table(0, 5);
        ink.lay(1, 0);
        Due.is("again(1)", ink.again(1), 1);
        Due.is("greys", ink.about(5), 11);
        Due.is("front", ink.grey(0, 0), 2);
        Due.is("back 0", ink.grey(1, 0), 3);
        Due.is("back 1", ink.grey(1, 1), 5);
        Due.is("the rule", ink.about(6), 1);
        Due.is("the reach", ink.about(7), 2);
        Due.is("the bound", ink.about(8), 3);
        Due.is("the table for 4", ink.shows(4), 6);
        Due.is("the table for 0", ink.shows(0), 0);
        Due.is("the lie", ink.about(9), 2);
        Due.is("no doings", ink.about(10), 0);
        Due.is("undo()", ink.undo(), LeafInk.LATE);
        ink.paint(0, 0, 9);
        Due.is("again(1) once more", ink.again(1), 1);
        Due.is("front once more", ink.grey(0, 0), 2);
    }

    private static void whatIsNotKept() {
        LeafInk ink = Due.leaf("L21 19 B 45");
        ink.seed(5);
        ink.keep(0);
        ink.see(0, 1);
        ink.seed(6);
        ink.wipe();
        ink.again(0);
        Due.is("seen", ink.about(11), 1);
        Due.is("the seed", ink.seed(0), 6);
        Due.is("the text", ink.about(12), 0);
    }

    private static void refusals() {
        LeafInk ink = Due.leaf("L21 19 B 45");
        ink.paint(0, 0, 5);
        Due.is("again(0)", ink.again(0), LeafInk.LATE);
        Due.is("again(1)", ink.again(1), LeafInk.LATE);
        Due.is("again(2)", ink.again(2), LeafInk.UNKNOWN);
        Due.is("again(-1)", ink.again(-1), LeafInk.UNKNOWN);
        Due.is("again(32)", ink.again(32), LeafInk.UNKNOWN);
        Due.is("keep(2)", ink.keep(2), LeafInk.UNKNOWN);
        Due.is("keep(-1)", ink.keep(-1), LeafInk.UNKNOWN);
        ink.keep(1);
        Due.is("again(0) still", ink.again(0), LeafInk.LATE);
        Due.is("doings after refusals", ink.about(10), 1);
    }
}
