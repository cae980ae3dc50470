/** Promises 24 to 26: what was seen, and by which reaches and bounds it was so. */
public final class SeenTest {
    public static void main(String[] args) {
        seeing();
        unseeing();
        waysByBound();
        waysByMean();
        waysAsTheLeafIsNow();
        dotsThatThereAreNot();
        Due.end();
    }

    private static void seeing() {
        LeafInk ink = Due.leaf("L21 19 B 99");
        Due.is("see(2, 0)", ink.see(2, 0), LeafInk.UNKNOWN);
        Due.is("see(-1, 2)", ink.see(-1, 2), LeafInk.UNKNOWN);
        Due.is("see(0, 2)", ink.see(0, 2), LeafInk.BAD);
        Due.is("see(0, -1)", ink.see(0, -1), LeafInk.BAD);
        Due.is("nothing seen", ink.about(11), 0);
        for (int many = 1; many <= 6; many++) {
            Due.is("see(1, 0)", ink.see(1, 0), many);
        }
        Due.is("see(1, 0) when full", ink.see(1, 0), LeafInk.FULL);
        Due.is("see(1, 2) when full", ink.see(1, 2), LeafInk.BAD);
        Due.is("see(2, 2) when full", ink.see(2, 2), LeafInk.UNKNOWN);
        Due.is("seen", ink.about(11), 6);
        Due.is("no doings", ink.about(10), 0);
    }

    private static void unseeing() {
        LeafInk ink = new LeafInk();
        Due.is("unsee() of nothing", ink.unsee(), 0);
        ink.see(0, 1);
        ink.see(0, 1);
        Due.is("ways(0) of a white dot as ink", ink.ways(0), 0);
        Due.is("unsee()", ink.unsee(), 2);
        Due.is("seen then", ink.about(11), 0);
        Due.is("ways(0) then", ink.ways(0), 30);
        Due.is("ways(1) then", ink.ways(1), 0);
    }

    private static void waysByBound() {
        LeafInk ink = Due.leaf("L21 36 B 99");
        ink.rule(2, 1, 1);
        ink.see(0, 1);
        Due.is("bounds 4 to 9", ink.ways(0), 18);
        Due.is("the first one", ink.ways(1), 4);
        ink.see(1, 0);
        Due.is("bounds 4 to 6", ink.ways(0), 9);
        Due.is("the first one still", ink.ways(1), 4);
        ink.see(0, 0);
        Due.is("it can not be both", ink.ways(0), 0);
        Due.is("there is no first one", ink.ways(1), LeafInk.NONE);
        Due.is("ways(2)", ink.ways(2), LeafInk.BAD);
        Due.is("ways(-1)", ink.ways(-1), LeafInk.BAD);
        Due.is("the reach stays", ink.about(7), 1);
        Due.is("the bound stays", ink.about(8), 1);
    }

    private static void waysByMean() {
        LeafInk ink = Due.leaf("L21 19 B 99");
        ink.see(0, 1);
        Due.is("reaches 1, 2, bounds 0 to 3", ink.ways(0), 8);
        Due.is("the first one", ink.ways(1), 10);
        ink.table(9, 2);
        Due.is("without a stain: bounds 0, 1", ink.ways(0), 4);
        ink.unsee();
        ink.see(0, 0);
        Due.is("a stain is no ink", ink.ways(0), 26);
        Due.is("the first one of those", ink.ways(1), 0);
    }

    private static void waysAsTheLeafIsNow() {
        LeafInk ink = Due.leaf("L21 36 B 99");
        ink.see(0, 1);
        Due.is("by rule 0: 6 and 2 times 1 is less than 9", ink.ways(0), 4);
        ink.paint(0, 0, 0);
        Due.is("when it is darker", ink.ways(0), 6);
        ink.rule(2, 0, 0);
        Due.is("by another rule", ink.ways(0), 27);
        Due.is("the first one", ink.ways(1), 1);
    }

    private static void dotsThatThereAreNot() {
        LeafInk ink = Due.leaf("L51 99990 B 99999");
        ink.see(4, 0);
        Due.retell(ink, "L11 0 B 9");
        Due.is("seen stays", ink.about(11), 1);
        Due.is("it is no ink", ink.ways(0), 30);
        ink.unsee();
        Due.retell(ink, "L51 99990 B 99999");
        ink.see(4, 1);
        Due.retell(ink, "L11 0 B 9");
        Due.is("and so never was", ink.ways(0), 0);
        Due.is("nor a first one", ink.ways(1), LeafInk.NONE);
        Due.retell(ink, "L15 99990 B 99999");
        // by reach 1 bounds 0 to 4, by reach 2 bounds 0 to 5
        Due.is("dot 4 of a column", ink.ways(0), 11);
    }
}
