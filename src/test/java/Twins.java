import java.util.ArrayList;
import java.util.List;
import java.util.function.Supplier;
import java.util.function.ToLongFunction;

/**
 * Two objects with the same calls behind them, of which one is asked something more: when both then tell the same,
 * what was asked has changed nothing. Each way of telling has twins of its own, so that none can cover another.
 */
final class Twins {
    private static final int ROW_OF_DOINGS = 14, WAYS_OF_TELLING = 24;

    private Twins() {
    }

    /** The call answers what is due and changes nothing. */
    static void asked(String call, Supplier<LeafInk> start, ToLongFunction<LeafInk> ask, long due) {
        for (int way = 0; way < WAYS_OF_TELLING; way++) {
            LeafInk one = start.get();
            LeafInk other = start.get();
            Due.is(call, ask.applyAsLong(one), due);
            same(call + " changes nothing, told by way " + way, tell(one, way), tell(other, way));
        }
    }

    /** The call is refused so on a new object, on one where much is full, and where THE TEXT is full, too. */
    static void refused(String call, ToLongFunction<LeafInk> ask, int due) {
        asked(call + " on a new object", LeafInk::new, ask, due);
        asked(call + " on a rich object", Twins::rich, ask, due);
        asked(call + " on a crammed object", Twins::crammed, ask, due);
    }

    /** The same for each of these values. */
    static void refusedAt(String call, int[] values, CallOf asked, int due) {
        for (int value : values) {
            refused(call + " " + value, asked.with(value), due);
        }
    }

    interface CallOf {
        ToLongFunction<LeafInk> with(int value);
    }

    static void alike(String what, LeafInk one, LeafInk other) {
        same(what, everything(one), everything(other));
    }

    private static void same(String what, List<Long> got, List<Long> want) {
        int place = 0;
        while (place < want.size() && place < got.size() && got.get(place).equals(want.get(place))) {
            place++;
        }
        Due.is(what + ", first unlike answer", place, Math.max(got.size(), want.size()));
    }

    /**
     * Three wide, two high. 14 DOINGS (more were done), 6 SEEN, both SLOTS kept, a SEED, and a TEXT that is another
     * LEAF of the same size. Nothing is as at first. DOINGS come last, so that no call before them can undo them.
     */
    static LeafInk rich() {
        LeafInk ink = Due.leaf("L32 158273 B 246813");
        ink.wipe();
        Due.writeAll(ink, "L32314159B265358");
        ink.seed(-77);
        for (int time = 0; time < 3; time++) {
            ink.see(3, 1);
            ink.see(4, 0);
        }
        ink.table(2, 3);
        ink.keep(0);
        ink.rule(1, 1, 2);
        ink.lay(1, 0);
        ink.keep(1);
        for (int grey = 0; grey < 4; grey++) {
            ink.table(grey, 9 - grey);
        }
        for (int dot = 0; dot < 4; dot++) {
            ink.paint(dot % 2, dot, 4 + dot % 3);
        }
        ink.light(1);
        ink.lay(-1, 1);
        ink.rule(0, 1, 3);
        ink.light(-2);
        ink.lay(1, -1);
        ink.rule(2, 2, 4);
        return ink;
    }

    /** The same with a TEXT that is full, and so no LEAF. */
    static LeafInk crammed() {
        LeafInk ink = rich();
        for (int length = 16; length < 56; length++) {
            ink.write('7');
        }
        return ink;
    }

    private static List<Long> tell(LeafInk ink, int way) {
        List<Long> told = new ArrayList<>();
        if (way <= 12) {
            told.add((long) ink.about(way));
            return told;
        }
        switch (way) {
            case 13: greys(ink, told); break;
            case 14: table(ink, told); break;
            case 15: told.add((long) ink.fault()); break;
            case 16: ways(ink, told); break;
            case 17: undone(ink, told); break;
            case 18: goneOn(ink, 0, told); break;
            case 19: goneOn(ink, 1, told); break;
            case 20: told.add(ink.seed(0)); break;
            case 21: told.add((long) ink.unsee()); break;
            case 22: newLeaf(ink, told); break;
            default: return everything(ink);
        }
        return told;
    }

    private static List<Long> everything(LeafInk ink) {
        List<Long> told = new ArrayList<>();
        look(ink, told);
        told.add(ink.seed(0));
        ways(ink, told);
        undone(ink, told);
        look(ink, told);
        goneOn(ink, 0, told);
        goneOn(ink, 1, told);
        for (int rule = 0; rule <= 2; rule++) {
            ink.rule(rule, 0, 0);
            ways(ink, told);
        }
        told.add((long) ink.unsee());
        newLeaf(ink, told);
        told.add((long) ink.wipe());
        return told;
    }

    private static void look(LeafInk ink, List<Long> told) {
        for (int what = 0; what <= 12; what++) {
            told.add((long) ink.about(what));
        }
        greys(ink, told);
        table(ink, told);
        told.add((long) ink.fault());
    }

    private static void greys(LeafInk ink, List<Long> told) {
        for (int dot = 0; dot <= 6; dot++) {
            told.add((long) ink.grey(0, dot));
            told.add((long) ink.grey(1, dot));
        }
    }

    private static void table(LeafInk ink, List<Long> told) {
        for (int grey = 0; grey <= 9; grey++) {
            told.add((long) ink.shows(grey));
        }
    }

    private static void ways(LeafInk ink, List<Long> told) {
        told.add((long) ink.ways(0));
        told.add((long) ink.ways(1));
    }

    private static void undone(LeafInk ink, List<Long> told) {
        for (int time = 0; time <= ROW_OF_DOINGS; time++) {
            told.add((long) ink.undo());
            for (int what = 5; what <= 9; what++) {
                told.add((long) ink.about(what));
            }
        }
    }

    private static void goneOn(LeafInk ink, int slot, List<Long> told) {
        told.add((long) ink.again(slot));
        look(ink, told);
    }

    private static void newLeaf(LeafInk ink, List<Long> told) {
        told.add((long) ink.leaf());
        look(ink, told);
    }
}
