/** The edges of promises 30 and 31: SLOTS, what they keep and what they do not. */
public final class EdgeSlotTest {
    private static final int UNKNOWN = LeafInk.UNKNOWN, LATE = LeafInk.LATE;
    private static final int MIN = Integer.MIN_VALUE, MAX = Integer.MAX_VALUE;

    public static void main(String[] args) {
        keptInEachSlotAlone();
        keepUnknown();
        keepLeavesAllElse();
        againUnknown();
        againLate();
        againOfAllThatIsKept();
        againLeavesWhatIsNotKept();
        againHasNoDoings();
        keptUntilAnotherLeaf();
        keptOverWhatWasKept();
        inkFromNoneToAll();
        Due.end();
    }

    private static LeafInk nothingKept() {
        LeafInk ink = Due.leaf("L32 158273 B 246813");
        ink.rule(2, 0, 5);
        ink.lay(1, 1);
        ink.see(2, 0);
        ink.seed(4);
        return ink;
    }

    // "SLOTS 0 .. 1 keep .."
    private static void keptInEachSlotAlone() {
        for (int slot = 0; slot <= 1; slot++) {
            LeafInk ink = nothingKept();
            Due.is("keep(" + slot + ")", ink.keep(slot), 3);
            Due.is("the other slot", ink.again(1 - slot), LATE);
            ink.rule(2, 0, 0);
            Due.is("again(" + slot + ")", ink.again(slot), 3);
            Due.is("the bound", ink.about(8), 5);
            ink.rule(2, 0, 2);
            Due.is("keep(" + (1 - slot) + ")", ink.keep(1 - slot), 1);
            Due.is("again(" + slot + ") still", ink.again(slot), 3);
            Due.is("again(" + (1 - slot) + ")", ink.again(1 - slot), 1);
        }
    }

    // "UNKNOWN."
    private static void keepUnknown() {
        int[] slots = {-1, 2, 3, 32, 33, MIN, MAX};
        Twins.refusedAt("keep", slots, slot -> ink -> ink.keep(slot), UNKNOWN);
        for (int slot : slots) {
            Twins.asked("keep(" + slot + ") of none", EdgeSlotTest::nothingKept, ink -> ink.keep(slot), UNKNOWN);
        }
    }

    private static void keepLeavesAllElse() {
        for (int slot = 0; slot <= 1; slot++) {
            LeafInk ink = Twins.rich();
            Due.is("keep(" + slot + ")", ink.keep(slot), ink.about(4));
            Due.is("doings", ink.about(10), 14);
            Due.is("seen", ink.about(11), 6);
            Due.is("letters", ink.about(12), 16);
            Due.is("undo()", ink.undo(), 13);
            Due.is("the seed", ink.seed(0), -77);
        }
    }

    // "UNKNOWN; LATE: none were kept." in this order
    private static void againUnknown() {
        int[] slots = {-1, 2, 3, 32, 33, MIN, MAX};
        Twins.refusedAt("again", slots, slot -> ink -> ink.again(slot), UNKNOWN);
        for (int slot : slots) {
            Twins.asked("again(" + slot + ") of none", EdgeSlotTest::nothingKept, ink -> ink.again(slot), UNKNOWN);
        }
    }

    private static void againLate() {
        for (int slot = 0; slot <= 1; slot++) {
            int asked = slot;
            Twins.asked("again(" + slot + ") at first", LeafInk::new, ink -> ink.again(asked), LATE);
            Twins.asked("again(" + slot + ") of none", EdgeSlotTest::nothingKept, ink -> ink.again(asked), LATE);
            Twins.asked("again(" + slot + ") of the other", () -> keptIn(1 - asked), ink -> ink.again(asked), LATE);
            Twins.asked("again(" + slot + ") behind leaf()", EdgeSlotTest::newLeaf, ink -> ink.again(asked), LATE);
        }
    }

    private static LeafInk keptIn(int slot) {
        LeafInk ink = nothingKept();
        ink.keep(slot);
        ink.paint(0, 0, 9);
        return ink;
    }

    private static LeafInk newLeaf() {
        LeafInk ink = Twins.rich();
        ink.leaf();
        ink.paint(0, 0, 9);
        return ink;
    }

    // "GREYS, THE RULE, THE TABLE, THE LIE"
    private static void againOfAllThatIsKept() {
        for (int slot = 0; slot <= 1; slot++) {
            LeafInk ink = Due.leaf("L55" + "0123456789876543210135792" + "B" + "9876543210123456789864207");
            ink.rule(1, 2, 9);
            ink.lay(-1, 1);
            for (int grey = 0; grey <= 9; grey++) {
                ink.table(grey, (grey + 3) % 10);
            }
            int inks = ink.keep(slot);
            for (int dot = 0; dot < 25; dot++) {
                ink.paint(0, dot, 4);
                ink.paint(1, dot, 5);
            }
            for (int grey = 0; grey <= 9; grey++) {
                ink.table(grey, 0);
            }
            ink.rule(2, 0, 0);
            ink.lay(1, -1);
            Due.is("again(" + slot + ")", ink.again(slot), inks);
            String front = "0123456789876543210135792";
            String back = "9876543210123456789864207";
            for (int dot = 0; dot < 25; dot++) {
                Due.is("leaf's dot " + dot, ink.grey(0, dot), front.charAt(dot) - '0');
                Due.is("back's dot " + dot, ink.grey(1, dot), back.charAt(dot) - '0');
            }
            for (int grey = 0; grey <= 9; grey++) {
                Due.is("shows(" + grey + ")", ink.shows(grey), (grey + 3) % 10);
            }
            int[] due = {1, 2, 9, 2, 0};
            for (int what = 6; what <= 10; what++) {
                Due.is("about(" + what + ")", ink.about(what), due[what - 6]);
            }
        }
    }

    private static void againLeavesWhatIsNotKept() {
        LeafInk ink = Twins.rich();
        ink.again(0);
        Due.is("seen", ink.about(11), 6);
        Due.is("letters", ink.about(12), 16);
        Due.is("the seed", ink.seed(0), -77);
        Due.is("the other slot's rule", ink.again(1), ink.about(4));
        Due.is("the rule of slot 1", ink.about(6), 1);
        Due.is("its lie", ink.about(9), 21);
        Due.is("leaf() from the text", ink.leaf(), 6);
    }

    // "(no DOINGS when one goes on)"
    private static void againHasNoDoings() {
        for (int slot = 0; slot <= 1; slot++) {
            LeafInk ink = Twins.rich();
            Due.is("doings before", ink.about(10), 14);
            ink.again(slot);
            Due.is("doings", ink.about(10), 0);
            Due.is("undo()", ink.undo(), LATE);
            for (int doing = 1; doing <= 15; doing++) {
                ink.paint(0, 0, doing % 10);
                Due.is("doings from none", ink.about(10), Math.min(doing, 14));
            }
        }
    }

    private static void keptUntilAnotherLeaf() {
        for (int slot = 0; slot <= 1; slot++) {
            LeafInk ink = nothingKept();
            ink.keep(slot);
            for (int time = 0; time < 3; time++) {
                ink.paint(0, 0, 9);
                ink.paint(1, 0, time);
                Due.is("again(" + slot + ") time after time", ink.again(slot), 3);
                Due.is("its grey", ink.grey(0, 0), 1);
                Due.is("its back's grey", ink.grey(1, 0), 2);
            }
            ink.wipe();
            Due.is("kept behind wipe()", ink.again(slot), 3);
            Due.is("leaf() that is refused", ink.leaf(), LATE);
            Due.is("kept behind it", ink.again(slot), 3);
            Due.retell(ink, "L32 158273 B 246813");
            Due.is("gone behind leaf()", ink.again(slot), LATE);
            ink.keep(slot);
            Due.is("kept anew", ink.again(slot), 3);
        }
    }

    private static void keptOverWhatWasKept() {
        for (int slot = 0; slot <= 1; slot++) {
            LeafInk ink = nothingKept();
            ink.keep(slot);
            ink.paint(0, 0, 9);
            Due.is("keep(" + slot + ") over it", ink.keep(slot), 2);
            ink.paint(0, 0, 0);
            Due.is("again(" + slot + ")", ink.again(slot), 2);
            Due.is("its grey", ink.grey(0, 0), 9);
        }
    }

    private static void inkFromNoneToAll() {
        LeafInk ink = Due.leaf("L55" + "0".repeat(25) + "B" + "9".repeat(25));
        Due.is("keep(0) of none", ink.keep(0), 0);
        ink.rule(2, 0, 1);
        Due.is("keep(1) of all", ink.keep(1), 25);
        Due.is("again(0) of none", ink.again(0), 0);
        Due.is("again(1) of all", ink.again(1), 25);
    }
}
