import java.util.function.LongSupplier;

/** Compares answers with what is due, and ends a test with exit code 1 if one was not. */
final class Due {
    private static int wrong = 0;
    private static int asked = 0;

    private Due() {
    }

    static void is(String call, long got, long want) {
        asked++;
        if (got != want) {
            wrong++;
            System.out.println(call + " answered " + got + ", due is " + want);
        }
    }

    static void fraction(String call, LongSupplier above, LongSupplier below, long wantAbove, long wantBelow) {
        is(call + " above", above.getAsLong(), wantAbove);
        is(call + " below", below.getAsLong(), wantBelow);
    }

    static void that(String what, boolean holds) {
        is(what, holds ? 1 : 0, 1);
    }

    static void end() {
        System.out.println(asked + " answers, " + wrong + " wrong");
        if (wrong != 0 || asked == 0) {
            System.exit(1);
        }
    }

    static void writeAll(LeafInk ink, String letters) {
        for (int place = 0; place < letters.length(); place++) {
            ink.write(letters.charAt(place));
        }
    }

    /** A new object with this leaf; blanks in the text are left out. */
    static LeafInk leaf(String letters) {
        LeafInk ink = new LeafInk();
        retell(ink, letters);
        return ink;
    }

    /** A new object with a leaf of one grey, and a back of one. */
    static LeafInk even(int w, int h, int front, int back) {
        String fronts = String.valueOf(front).repeat(w * h);
        return leaf("L" + w + h + fronts + "B" + String.valueOf(back).repeat(w * h));
    }

    static void retell(LeafInk ink, String letters) {
        String told = letters.replace(" ", "");
        ink.wipe();
        writeAll(ink, told);
        int dots = (told.charAt(1) - '0') * (told.charAt(2) - '0');
        is("leaf() of " + told, ink.leaf(), dots);
    }
}
