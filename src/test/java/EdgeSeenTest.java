/** The edges of promises 24 to 26: what is SEEN, and the WAYS by which it is so. */
public final class EdgeSeenTest {
    private static final int BAD = LeafInk.BAD, UNKNOWN = LeafInk.UNKNOWN, NONE = LeafInk.NONE, FULL = LeafInk.FULL;
    private static final int MIN = Integer.MIN_VALUE, MAX = Integer.MAX_VALUE;

    public static void main(String[] args) {
        sixAreSeen();
        seeUnknown();
        seeBad();
        unknownThenBadThenFull();
        unseenFromNoneToSix();
        unseeTakesSeenAlone();
        waysFromThirtyToNone();
        firstAndLastWay();
        waysOfEachSeen();
        dotsThatThereAreNot();
        waysBad();
        Due.end();
    }

    private static LeafInk noneSeen() {
        LeafInk ink = Twins.rich();
        ink.unsee();
        return ink;
    }

    private static LeafInk fiveSeen() {
        LeafInk ink = noneSeen();
        for (int time = 0; time < 5; time++) {
            ink.see(time, 0);
        }
        return ink;
    }

    // "6 such at most, none at first"; "FULL: 6."
    private static void sixAreSeen() {
        LeafInk ink = new LeafInk();
        Due.is("none at first", ink.about(11), 0);
        for (int many = 1; many <= 6; many++) {
            Due.is("see() as number " + many, ink.see(0, many % 2), many);
            Due.is("seen", ink.about(11), many);
        }
        for (int time = 0; time < 3; time++) {
            Due.is("see() as number 7", ink.see(0, 1), FULL);
            Due.is("seen still", ink.about(11), 6);
        }
        Twins.asked("see(0, 0) when full", Twins::rich, full -> full.see(0, 0), FULL);
        Twins.asked("see(3, 0) when full", Twins::rich, full -> full.see(3, 0), FULL);
        Twins.asked("see(4, 1) when full", Twins::rich, full -> full.see(4, 1), FULL);
        Twins.asked("see(5, 1) when full", Twins::rich, full -> full.see(5, 1), FULL);
        Due.is("the sixth", fiveSeen().see(0, 0), 6);
    }

    // "UNKNOWN: dot"
    private static void seeUnknown() {
        for (int ink = 0; ink <= 1; ink++) {
            int seen = ink;
            Twins.refusedAt("see of dot", new int[] {-1, 6, 24, 25, MIN, MAX}, dot -> on -> on.see(dot, seen), UNKNOWN);
            for (int dot : new int[] {-1, 6, MIN, MAX}) {
                String call = "see(" + dot + ", " + ink + ")";
                Twins.asked(call + " of none", EdgeSeenTest::noneSeen, on -> on.see(dot, seen), UNKNOWN);
                Twins.asked(call + " of five", EdgeSeenTest::fiveSeen, on -> on.see(dot, seen), UNKNOWN);
            }
            LeafInk large = Due.leaf("L55" + "9".repeat(25) + "B" + "9".repeat(25));
            Due.is("there is dot 24", large.see(24, ink), 1);
            Due.is("there is no dot 25", large.see(25, ink), UNKNOWN);
            Due.is("there is dot 0", large.see(0, ink), 2);
        }
    }

    // "BAD: ink (0, 1)"
    private static void seeBad() {
        for (int ink : new int[] {-1, 2, MIN, MAX}) {
            Twins.asked("see(0, " + ink + ") at first", LeafInk::new, on -> on.see(0, ink), BAD);
            Twins.asked("see(5, " + ink + ") of none", EdgeSeenTest::noneSeen, on -> on.see(5, ink), BAD);
            Twins.asked("see(5, " + ink + ") of five", EdgeSeenTest::fiveSeen, on -> on.see(5, ink), BAD);
        }
    }

    // "Of several what is told first."
    private static void unknownThenBadThenFull() {
        int[] inks = {-1, 2, MIN, MAX};
        Twins.refusedAt("see of no dot", inks, ink -> on -> on.see(6, ink), UNKNOWN);
        Twins.refusedAt("see of dot -1", inks, ink -> on -> on.see(-1, ink), UNKNOWN);
        for (int ink : inks) {
            Twins.asked("see(5, " + ink + ") when full", Twins::rich, on -> on.see(5, ink), BAD);
            Twins.asked("see(6, " + ink + ") when full", Twins::rich, on -> on.see(6, ink), UNKNOWN);
        }
        Twins.asked("see(6, 1) when full", Twins::rich, on -> on.see(6, 1), UNKNOWN);
    }

    // "Nothing is SEEN: how much there was."
    private static void unseenFromNoneToSix() {
        for (int many = 0; many <= 6; many++) {
            LeafInk ink = new LeafInk();
            for (int time = 0; time < many; time++) {
                ink.see(0, 1);
            }
            Due.is("ways(0) of " + many, ink.ways(0), many == 0 ? 30 : 0);
            Due.is("unsee() of " + many, ink.unsee(), many);
            Due.is("seen then", ink.about(11), 0);
            Due.is("ways(0) then", ink.ways(0), 30);
            Due.is("unsee() of none", ink.unsee(), 0);
            for (int time = 1; time <= 6; time++) {
                Due.is("see() once more", ink.see(0, 0), time);
            }
            Due.is("and full once more", ink.see(0, 0), FULL);
        }
    }

    private static void unseeTakesSeenAlone() {
        LeafInk ink = Twins.rich();
        Due.is("unsee()", ink.unsee(), 6);
        for (int time = 0; time < 3; time++) {
            ink.see(3, 1);
            ink.see(4, 0);
        }
        Twins.alike("unseen and seen once more", ink, Twins.rich());
    }

    // "how many (30 there are)"; "NONE."
    private static void waysFromThirtyToNone() {
        LeafInk ink = Due.leaf("L21 09 B 99");
        ink.rule(2, 1, 1);
        ways(ink, 30, 0);
        ink.see(1, 0);
        ways(ink, 30, 0);
        ink.see(0, 1);
        ways(ink, 27, 1);
        ink.see(0, 0);
        ways(ink, 0, NONE);
        ink.unsee();
        ink.see(0, 0);
        ways(ink, 3, 0);
        ink.unsee();
        ink.see(1, 1);
        ways(ink, 0, NONE);
    }

    private static void ways(LeafInk ink, int many, int first) {
        Due.is("ways(0)", ink.ways(0), many);
        Due.is("ways(1)", ink.ways(1), first);
    }

    // "the first one (10 times the one and the other)"
    private static void firstAndLastWay() {
        LeafInk ink = new LeafInk();
        ink.see(0, 1);
        for (int grey = 0; grey <= 9; grey++) {
            ink.paint(0, 0, grey);
            ink.rule(2, 2, 0);
            ways(ink, 3 * (9 - grey), grey == 9 ? NONE : grey + 1);
        }
        LeafInk last = Due.leaf("L41 2380 B 5794");
        last.rule(1, 0, 0);
        last.table(9, 9);
        last.see(3, 1);
        last.see(0, 0);
        // DOT 0 is INK by REACH 1 always, by REACH 2 by all BOUNDS but 9; DOT 3 by REACHES 1, 2 always.
        ways(last, 1, 29);
        last.unsee();
        last.see(0, 1);
        ways(last, 19, 10);
    }

    // "all that is SEEN is so": each of the six counts
    private static void waysOfEachSeen() {
        for (int place = 0; place < 6; place++) {
            LeafInk ink = Due.leaf("L21 09 B 99");
            ink.rule(2, 0, 0);
            for (int time = 0; time < 6; time++) {
                ink.see(time == place ? 0 : 1, 0);
            }
            ways(ink, 3, 0);
        }
    }

    // "(DOTS that there are not are no INK)"
    private static void dotsThatThereAreNot() {
        String large = "L55" + "0".repeat(25) + "B" + "9".repeat(25);
        for (int dot : new int[] {1, 24}) {
            for (int seen = 0; seen <= 1; seen++) {
                LeafInk ink = Due.leaf(large);
                ink.see(dot, seen);
                Due.retell(ink, "L11 0 B 9");
                ink.rule(2, 0, 0);
                ways(ink, seen == 0 ? 30 : 0, seen == 0 ? 0 : NONE);
                Due.is("seen still", ink.about(11), 1);
                Due.is("there is no such dot to see", ink.see(dot, seen), UNKNOWN);
                Due.retell(ink, large);
                ink.rule(2, 0, 0);
                ways(ink, seen == 0 ? 3 : 27, seen == 0 ? 0 : 1);
            }
        }
    }

    // "BAD.", also where there is none
    private static void waysBad() {
        Twins.refusedAt("ways", new int[] {-1, 2, MIN, MAX}, what -> ink -> ink.ways(what), BAD);
        LeafInk none = new LeafInk();
        none.see(0, 1);
        Due.is("ways(2) where there is none", none.ways(2), BAD);
        Due.is("ways(-1) where there is none", none.ways(-1), BAD);
        Twins.asked("ways(0)", Twins::rich, ink -> ink.ways(0), 15);
        Twins.asked("ways(1)", Twins::rich, ink -> ink.ways(1), 2);
    }
}
