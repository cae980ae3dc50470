import java.util.ArrayList;
import java.util.List;
import java.util.function.Supplier;
import java.util.function.ToLongFunction;

/**
 * Two objects with the same calls behind them, of which one is asked something more: when both then tell all that
 * they hold, and tell the same, what was asked has changed nothing.
 */
final class Twins {
    private static final int ROW_OF_DOINGS = 14;

    private Twins() {
    }

    /** The call answers what is due and changes nothing. */
    static void asked(String call, Supplier<LeafInk> start, ToLongFunction<LeafInk> ask, long due) {
        LeafInk one = start.get();
        LeafInk other = start.get();
        Due.is(call, ask.applyAsLong(one), due);
        alike(call + " changes nothing", one, other);
    }

    /** The call is refused so on a new object, on one where much is full, and where THE TEXT is full, too. */
    static void refused(String call, ToLongFunction<LeafInk> ask, int due) {
        asked(call + " on a new object", LeafInk::new, ask, due);
        asked(call + " on a rich object", Twins::rich, ask, due);
        asked(call + " on a crammed object", Twins::crammed, ask, due);
    }

    /** The same for each of these values. */
    static void refusedAt(String call, int[] values, CallOf asked, int due) {
        for (int value : values) {
            refused(call + " " + value, asked.with(value), due);
        }
    }

    interface CallOf {
        ToLongFunction<LeafInk> with(int value);
    }

    static void alike(String what, LeafInk one, LeafInk other) {
        List<Long> got = everything(one);
        List<Long> want = everything(other);
        int place = 0;
        while (place < want.size() && got.get(place).equals(want.get(place))) {
            place++;
        }
        Due.is(what + ", first unlike answer", place, want.size());
    }

    /**
     * Three wide, two high. 14 DOINGS (more were done), 6 SEEN, both SLOTS kept, a SEED, and a TEXT that is another
     * LEAF of the same size.
     */
    static LeafInk rich() {
        LeafInk ink = Due.leaf("L32 158273 B 246813");
        ink.table(2, 3);
        ink.keep(0);
        ink.rule(1, 1, 2);
        ink.lay(1, 0);
        ink.keep(1);
        for (int grey = 0; grey < 4; grey++) {
            ink.table(grey, 9 - grey);
        }
        for (int dot = 0; dot < 4; dot++) {
            ink.paint(dot % 2, dot, 4 + dot % 3);
        }
        ink.light(1);
        ink.lay(-1, 1);
        ink.rule(0, 2, 3);
        ink.light(-2);
        ink.lay(0, -1);
        ink.rule(2, 1, 4);
        for (int time = 0; time < 3; time++) {
            ink.see(3, 1);
            ink.see(4, 0);
        }
        ink.seed(-77);
        ink.wipe();
        Due.writeAll(ink, "L32314159B265358");
        return ink;
    }

    /** The same with a TEXT that is full, and so no LEAF. */
    static LeafInk crammed() {
        LeafInk ink = rich();
        for (int length = ink.about(12); length < 56; length++) {
            ink.write('7');
        }
        return ink;
    }

    private static List<Long> everything(LeafInk ink) {
        List<Long> told = new ArrayList<>();
        look(ink, told);
        told.add(ink.seed(0));
        ways(ink, told);
        for (int time = 0; time <= ROW_OF_DOINGS; time++) {
            told.add((long) ink.undo());
            for (int what = 5; what <= 9; what++) {
                told.add((long) ink.about(what));
            }
        }
        look(ink, told);
        for (int slot = 0; slot <= 1; slot++) {
            told.add((long) ink.again(slot));
            look(ink, told);
        }
        for (int rule = 0; rule <= 2; rule++) {
            ink.rule(rule, 0, 0);
            ways(ink, told);
        }
        told.add((long) ink.unsee());
        told.add((long) ink.leaf());
        look(ink, told);
        return told;
    }

    private static void look(LeafInk ink, List<Long> told) {
        for (int what = 0; what <= 12; what++) {
            told.add((long) ink.about(what));
        }
        int dots = ink.about(0) * ink.about(1);
        for (int dot = 0; dot < dots; dot++) {
            told.add((long) ink.grey(0, dot));
            told.add((long) ink.grey(1, dot));
        }
        for (int grey = 0; grey <= 9; grey++) {
            told.add((long) ink.shows(grey));
        }
        told.add((long) ink.fault());
    }

    private static void ways(LeafInk ink, List<Long> told) {
        told.add((long) ink.ways(0));
        told.add((long) ink.ways(1));
    }
}
