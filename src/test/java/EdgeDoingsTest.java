/** The edges of promises 14 to 19: DOINGS, what is refused, the row that is full, and how they are undone. */
public final class EdgeDoingsTest {
    private static final int BAD = LeafInk.BAD, UNKNOWN = LeafInk.UNKNOWN, LATE = LeafInk.LATE;
    private static final int MIN = Integer.MIN_VALUE, MAX = Integer.MAX_VALUE;

    public static void main(String[] args) {
        paintTaken();
        paintUnknown();
        paintBad();
        paintUnknownIsToldBeforeBad();
        lightOfOneDot();
        lightOfAllDots();
        lightBadIsToldBeforeLate();
        lightLateChangesNothing();
        ruleTaken();
        ruleBad();
        tableTaken();
        tableBad();
        layTaken();
        layBad();
        undoLate();
        undoOfEachKind();
        doingsThatChangeNothingAreDoings();
        rowOfFourteen();
        firstIsForgottenOfEachKind();
        undoneAndFilledOnceMore();
        refusedDoingForgetsNothing();
        Due.end();
    }

    private static LeafInk black(int w, int h) {
        return Due.leaf("L" + w + h + "0".repeat(w * h) + "B" + "0".repeat(w * h));
    }

    // "PAINTED: its GREY as it was."
    private static void paintTaken() {
        LeafInk ink = black(5, 5);
        for (int side = 0; side <= 1; side++) {
            for (int dot : new int[] {0, 24}) {
                Due.is("paint(" + side + ", " + dot + ", 9)", ink.paint(side, dot, 9), 0);
                Due.is("its grey", ink.grey(side, dot), 9);
                Due.is("the other side's", ink.grey(1 - side, dot), side == 0 ? 0 : 9);
                Due.is("paint(" + side + ", " + dot + ", 0) and on", ink.paint(side, dot, 0), 9);
                Due.is("its grey", ink.grey(side, dot), 0);
                ink.paint(side, dot, 9);
            }
        }
        Due.is("greys together", ink.about(5), 18);
        for (int v = 0; v <= 9; v++) {
            ink.paint(1, 12, v);
            Due.is("grey " + v, ink.grey(1, 12), v);
        }
    }

    // "UNKNOWN: side, dot"
    private static void paintUnknown() {
        Twins.refusedAt("paint on side", new int[] {-1, 2, MIN, MAX}, side -> ink -> ink.paint(side, 0, 5), UNKNOWN);
        for (int side = 0; side <= 1; side++) {
            int on = side;
            int[] dots = {-1, 6, 24, 25, MIN, MAX};
            Twins.refusedAt("paint of dot", dots, dot -> ink -> ink.paint(on, dot, 5), UNKNOWN);
            LeafInk small = new LeafInk();
            Due.is("there is one dot", small.paint(side, 0, 5), 9);
            Due.is("there is no second one", small.paint(side, 1, 5), UNKNOWN);
            LeafInk large = black(5, 5);
            Due.is("there is dot 24", large.paint(side, 24, 5), 0);
            Due.is("there is no dot 25", large.paint(side, 25, 5), UNKNOWN);
        }
    }

    // "BAD: v (0 .. 9)."
    private static void paintBad() {
        Twins.refusedAt("paint by", new int[] {-1, 10, MIN, MAX}, v -> ink -> ink.paint(0, 0, v), BAD);
        Twins.refusedAt("paint of the back by", new int[] {-1, 10, MIN, MAX}, v -> ink -> ink.paint(1, 0, v), BAD);
    }

    // "Of several what is told first."
    private static void paintUnknownIsToldBeforeBad() {
        Twins.refusedAt("paint on side 2 by", new int[] {-1, 10}, v -> ink -> ink.paint(2, 0, v), UNKNOWN);
        Twins.refusedAt("paint on side -1 by", new int[] {-1, 10}, v -> ink -> ink.paint(-1, 0, v), UNKNOWN);
        Twins.refusedAt("paint of dot 6 by", new int[] {-1, 10}, v -> ink -> ink.paint(0, 6, v), UNKNOWN);
        Twins.refusedAt("paint of dot -1 by", new int[] {-1, 10}, v -> ink -> ink.paint(1, -1, v), UNKNOWN);
        Twins.refusedAt("paint of dot 6 on side 2 by", new int[] {-1, 10}, v -> ink -> ink.paint(2, 6, v), UNKNOWN);
    }

    // "LIT: GREYS of THE LEAF together then. BAD: d; LATE: one would not stay 0 .. 9."
    private static void lightOfOneDot() {
        for (int grey = 0; grey <= 9; grey++) {
            for (int d = -11; d <= 11; d++) {
                LeafInk ink = new LeafInk();
                ink.paint(0, 0, grey);
                boolean stays = grey + d >= 0 && grey + d <= 9;
                int due = d < -9 || d > 9 ? BAD : stays ? grey + d : LATE;
                Due.is("light(" + d + ") of " + grey, ink.light(d), due);
                Due.is("its grey then", ink.grey(0, 0), due < 0 ? grey : due);
                Due.is("the back's grey then", ink.grey(1, 0), 9);
                Due.is("doings then", ink.about(10), due < 0 ? 1 : 2);
            }
        }
    }

    // "all DOTS of THE LEAF get a GREY more by d (-9 .. 9), if all of them stay 0 .. 9"
    private static void lightOfAllDots() {
        LeafInk ink = Due.leaf("L55" + "4".repeat(25) + "B" + "09".repeat(12) + "0");
        Due.is("light(5)", ink.light(5), 225);
        Due.is("light(-9)", ink.light(-9), 0);
        Due.is("light(9)", ink.light(9), 225);
        Due.is("the back is as it was", ink.grey(1, 0) + ink.grey(1, 24), 0);
        for (int dot : new int[] {0, 12, 24}) {
            LeafInk one = black(5, 5);
            one.paint(0, dot, 9);
            Due.is("light(1) where dot " + dot + " is white", one.light(1), LATE);
            Due.is("light(0) where dot " + dot + " is white", one.light(0), 9);
            one.paint(0, dot, 8);
            Due.is("light(1) where dot " + dot + " is almost white", one.light(1), 33);
            Due.is("light(-1) and all is back", one.light(-1), 8);
            Due.is("light(-1) where others are black", one.light(-1), LATE);
        }
    }

    private static void lightBadIsToldBeforeLate() {
        Twins.refusedAt("light", new int[] {-10, 10, MIN, MAX, MIN + 9, MAX - 9}, d -> ink -> ink.light(d), BAD);
    }

    private static void lightLateChangesNothing() {
        Twins.asked("light(1) of white", LeafInk::new, ink -> ink.light(1), LATE);
        Twins.asked("light(9) of white", LeafInk::new, ink -> ink.light(9), LATE);
        // The GREYS are 1 .. 6: by 3 and by -1 they stay, by 4 and by -2 one does not.
        Twins.asked("light(4)", Twins::rich, ink -> ink.light(4), LATE);
        Twins.asked("light(-2)", Twins::rich, ink -> ink.light(-2), LATE);
        Twins.asked("light(9)", Twins::rich, ink -> ink.light(9), LATE);
        Twins.asked("light(-9)", Twins::rich, ink -> ink.light(-9), LATE);
        Due.is("light(3)", Twins.rich().light(3), 39);
        Due.is("light(-1)", Twins.rich().light(-1), 15);
    }

    // "THE RULE is 0, 1 or 2, with a REACH r (0 .. 2) and a BOUND c (0 .. 9)"
    private static void ruleTaken() {
        for (int rule = 0; rule <= 2; rule++) {
            LeafInk ink = Due.leaf("L21 09 B 99");
            for (int reach = 0; reach <= 2; reach++) {
                for (int bound = 0; bound <= 9; bound++) {
                    boolean byMean = rule == 0 && reach > 0 && 2 * bound < 9;
                    // 8100 against the square of the bound times 81
                    boolean bySpread = rule == 1 && reach > 0;
                    boolean byBound = rule == 2 && bound > 0;
                    Due.is("rule(" + rule + ", " + reach + ", " + bound + ")", ink.rule(rule, reach, bound),
                            byMean || bySpread || byBound ? 1 : 0);
                    Due.is("the rule", ink.about(6), rule);
                    Due.is("the reach", ink.about(7), reach);
                    Due.is("the bound", ink.about(8), bound);
                }
            }
        }
    }

    // "BAD: rule, reach, bound."
    private static void ruleBad() {
        Twins.refusedAt("rule", new int[] {-1, 3, MIN, MAX}, rule -> ink -> ink.rule(rule, 1, 1), BAD);
        Twins.refusedAt("reach", new int[] {-1, 3, MIN, MAX}, reach -> ink -> ink.rule(1, reach, 1), BAD);
        Twins.refusedAt("bound", new int[] {-1, 10, MIN, MAX}, bound -> ink -> ink.rule(1, 1, bound), BAD);
        Twins.refused("rule(3, 3, 10)", ink -> ink.rule(3, 3, 10), BAD);
        Twins.refused("rule(-1, -1, -1)", ink -> ink.rule(-1, -1, -1), BAD);
    }

    // "TABLED: the number as it was."
    private static void tableTaken() {
        for (int grey = 0; grey <= 9; grey++) {
            LeafInk ink = new LeafInk();
            int before = 0;
            for (int v = 9; v >= 0; v--) {
                Due.is("table(" + grey + ", " + v + ")", ink.table(grey, v), before);
                Due.is("shows(" + grey + ")", ink.shows(grey), v);
                before = v;
            }
            ink.table(grey, 9);
            for (int other = 0; other <= 9; other++) {
                Due.is("shows(" + other + ") behind table(" + grey + ", 9)", ink.shows(other), other == grey ? 9 : 0);
            }
        }
    }

    // "BAD: grey, v (0 .. 9)."
    private static void tableBad() {
        Twins.refusedAt("table of grey", new int[] {-1, 10, MIN, MAX}, grey -> ink -> ink.table(grey, 5), BAD);
        Twins.refusedAt("table by", new int[] {-1, 10, MIN, MAX}, v -> ink -> ink.table(5, v), BAD);
        Twins.refused("table(10, 10)", ink -> ink.table(10, 10), BAD);
        Twins.refused("table(-1, -1)", ink -> ink.table(-1, -1), BAD);
    }

    // "THE LIE is dx, dy (-1, 0, 1 each)"; "LAID: INK DOTS then."
    private static void layTaken() {
        for (int dx = -1; dx <= 1; dx++) {
            for (int dy = -1; dy <= 1; dy++) {
                LeafInk ink = black(3, 3);
                ink.rule(2, 0, 1);
                ink.table(0, 9);
                Due.is("lay(" + dx + ", " + dy + ")", ink.lay(dx, dy), 9 - (3 - dx * dx) * (3 - dy * dy));
                Due.is("the lie", ink.about(9), 10 * dx + dy + 11);
            }
        }
    }

    // "BAD: dx, dy."
    private static void layBad() {
        Twins.refusedAt("lay by dx", new int[] {-2, 2, MIN, MAX}, dx -> ink -> ink.lay(dx, 0), BAD);
        Twins.refusedAt("lay by dy", new int[] {-2, 2, MIN, MAX}, dy -> ink -> ink.lay(0, dy), BAD);
        Twins.refused("lay(2, 2)", ink -> ink.lay(2, 2), BAD);
        Twins.refused("lay(-2, -2)", ink -> ink.lay(-2, -2), BAD);
    }

    // "LATE: there is none."
    private static void undoLate() {
        Twins.asked("undo() at first", LeafInk::new, LeafInk::undo, LATE);
        Twins.asked("undo() when all is undone", EdgeDoingsTest::allUndone, LeafInk::undo, LATE);
        Twins.asked("undo() behind leaf()", EdgeDoingsTest::newLeaf, LeafInk::undo, LATE);
        Twins.asked("undo() behind again()", EdgeDoingsTest::goneOn, LeafInk::undo, LATE);
    }

    private static LeafInk allUndone() {
        LeafInk ink = Twins.rich();
        for (int left = 13; left >= 0; left--) {
            Due.is("undo()", ink.undo(), left);
        }
        return ink;
    }

    private static LeafInk newLeaf() {
        LeafInk ink = Twins.rich();
        ink.leaf();
        return ink;
    }

    private static LeafInk goneOn() {
        LeafInk ink = Twins.rich();
        ink.again(1);
        return ink;
    }

    /** Kinds 0 .. 9 stand for the five DOINGS, each in two ways. */
    private static long doing(LeafInk ink, int kind) {
        switch (kind) {
            case 0: return ink.paint(0, 0, 3);
            case 1: return ink.paint(1, 5, 0);
            case 2: return ink.light(2);
            case 3: return ink.light(-1);
            case 4: return ink.rule(2, 0, 9);
            case 5: return ink.rule(1, 2, 0);
            case 6: return ink.table(0, 9);
            case 7: return ink.table(9, 1);
            case 8: return ink.lay(1, -1);
            default: return ink.lay(-1, 1);
        }
    }

    private static LeafInk plain() {
        LeafInk ink = Due.leaf("L32 123456 B 987654");
        ink.wipe();
        return ink;
    }

    // "The last DOING is undone: how many are left."
    private static void undoOfEachKind() {
        for (int kind = 0; kind <= 9; kind++) {
            for (int other = 0; other <= 9; other++) {
                LeafInk ink = plain();
                LeafInk one = plain();
                doing(ink, kind);
                doing(one, kind);
                boolean taken = doing(ink, other) != LATE;
                if (taken) {
                    Due.is("undo() of " + other + " behind " + kind, ink.undo(), 1);
                }
                Twins.alike("undone " + other + " behind " + kind, ink, one);
            }
            LeafInk ink = plain();
            doing(ink, kind);
            Due.is("undo() of " + kind, ink.undo(), 0);
            Twins.alike("undone " + kind, ink, plain());
        }
    }

    // A DOING is one also where all is as it was.
    private static void doingsThatChangeNothingAreDoings() {
        LeafInk ink = new LeafInk();
        Due.is("paint(0, 0, 9)", ink.paint(0, 0, 9), 9);
        Due.is("light(0)", ink.light(0), 9);
        Due.is("rule(0, 1, 1)", ink.rule(0, 1, 1), 0);
        Due.is("table(3, 0)", ink.table(3, 0), 0);
        Due.is("lay(0, 0)", ink.lay(0, 0), 0);
        Due.is("doings", ink.about(10), 5);
        for (int left = 4; left >= 0; left--) {
            Due.is("undo()", ink.undo(), left);
        }
        Twins.alike("all is as at first", ink, new LeafInk());
    }

    // "a row (14 at most; when it is full, the first one is forgotten); the last one can be undone"
    private static void rowOfFourteen() {
        for (int many = 0; many <= 60; many++) {
            LeafInk ink = new LeafInk();
            for (int doing = 1; doing <= many; doing++) {
                ink.paint(0, 0, 7 * doing % 10);
                Due.is("doings behind " + doing, ink.about(10), Math.min(doing, 14));
            }
            int left = Math.min(many, 14);
            while (left > 0) {
                left--;
                Due.is("undo() of " + many, ink.undo(), left);
                int still = many - Math.min(many, 14) + left;
                Due.is("grey by " + still + " of " + many, ink.grey(0, 0), still == 0 ? 9 : 7 * still % 10);
            }
            Due.is("undo() of none left of " + many, ink.undo(), LATE);
        }
    }

    private static void firstIsForgottenOfEachKind() {
        for (int kind = 0; kind <= 9; kind++) {
            LeafInk thirteen = plain();
            LeafInk fourteen = plain();
            LeafInk once = plain();
            doing(thirteen, kind);
            doing(fourteen, kind);
            doing(once, kind);
            for (int more = 0; more < 13; more++) {
                thirteen.paint(0, 2, more % 10);
                fourteen.paint(0, 2, more % 10);
            }
            fourteen.paint(0, 2, 0);
            Due.is("a full row, the first still in it", thirteen.about(10), 14);
            Due.is("a full row, the first forgotten", fourteen.about(10), 14);
            undoAll(thirteen);
            undoAll(fourteen);
            Twins.alike("the first one, " + kind + ", is undone", thirteen, plain());
            Due.is("nothing is left", fourteen.about(10), 0);
            once.keep(0);
            once.again(0);
            fourteen.keep(0);
            Twins.alike("the first one, " + kind + ", is not undone", fourteen, once);
        }
    }

    private static void undoAll(LeafInk ink) {
        for (int left = 13; left >= 0; left--) {
            Due.is("undo()", ink.undo(), left);
        }
    }

    private static void undoneAndFilledOnceMore() {
        LeafInk ink = new LeafInk();
        for (int doing = 1; doing <= 14; doing++) {
            ink.table(doing % 10, 1 + doing % 9);
        }
        Due.is("undo()", ink.undo(), 13);
        Due.is("undo() twice", ink.undo(), 12);
        ink.paint(0, 0, 1);
        ink.paint(0, 0, 2);
        Due.is("full once more", ink.about(10), 14);
        ink.paint(0, 0, 3);
        Due.is("full still", ink.about(10), 14);
        undoAll(ink);
        Due.is("the first one was forgotten", ink.shows(1), 2);
        Due.is("the second one was not", ink.shows(2), 0);
        Due.is("the dot is as at first", ink.grey(0, 0), 9);
    }

    // "What is refused changes nothing", where a DOING that is taken would forget the first one.
    private static void refusedDoingForgetsNothing() {
        Twins.asked("paint refused when full", Twins::rich, ink -> ink.paint(0, 6, 1), UNKNOWN);
        Twins.asked("paint bad when full", Twins::rich, ink -> ink.paint(0, 5, 10), BAD);
        Twins.asked("light bad when full", Twins::rich, ink -> ink.light(10), BAD);
        Twins.asked("light late when full", Twins::rich, ink -> ink.light(8), LATE);
        Twins.asked("rule bad when full", Twins::rich, ink -> ink.rule(0, 0, 10), BAD);
        Twins.asked("table bad when full", Twins::rich, ink -> ink.table(0, 10), BAD);
        Twins.asked("lay bad when full", Twins::rich, ink -> ink.lay(0, -2), BAD);
    }
}
