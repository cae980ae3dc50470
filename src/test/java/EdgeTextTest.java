/** The edges of promises 1 to 5: a new object, THE TEXT, its FAULT, and how it becomes THE LEAF. */
public final class EdgeTextTest {
    private static final int LATE = LeafInk.LATE, NONE = LeafInk.NONE, UNKNOWN = LeafInk.UNKNOWN;

    public static void main(String[] args) {
        allAsAtFirst();
        lettersThatAreTaken();
        lettersThatAreBad();
        textOf56IsFull();
        badIsToldBeforeFull();
        wipedFromEmptyToFull();
        wipeTakesTheTextAlone();
        everyLetterAtEveryKindOfPlace();
        everySizeFromEmptyToTooLong();
        backAtAnotherPlace();
        ofSeveralFaultsTheFirst();
        lengthIfOnlyNotAtItsEnd();
        leafIsLate();
        leafOfEverySize();
        leafMakesAllAsAtFirst();
        leafLeavesSeenAndSeed();
        leafTwiceFromOneText();
        Due.end();
    }

    // "At first there is one DOT on each side, GREY 9"; RULE 0, 1, 1; TABLE 0 all; LIE 0, 0; none SEEN; SEED 0.
    private static void allAsAtFirst() {
        LeafInk ink = new LeafInk();
        int[] want = {1, 1, 0, 0, 0, 9, 0, 1, 1, 11, 0, 0, 0};
        for (int what = 0; what < want.length; what++) {
            Due.is("about(" + what + ") at first", ink.about(what), want[what]);
        }
        Due.is("the leaf's dot at first", ink.grey(0, 0), 9);
        Due.is("the back's dot at first", ink.grey(1, 0), 9);
        for (int side = 0; side <= 1; side++) {
            Due.is("there is no second dot of side " + side, ink.grey(side, 1), UNKNOWN);
        }
        for (int grey = 0; grey <= 9; grey++) {
            Due.is("shows(" + grey + ") at first", ink.shows(grey), 0);
        }
        Due.is("fault() at first", ink.fault(), 0);
        Due.is("undo() at first", ink.undo(), LATE);
        Due.is("again(0) at first", ink.again(0), LATE);
        Due.is("again(1) at first", ink.again(1), LATE);
        Due.is("unsee() at first", ink.unsee(), 0);
        Due.is("wipe() at first", ink.wipe(), 0);
        Due.is("the seed at first", ink.seed(1), 0);
    }

    // "A letter (0 .. 255) comes behind THE TEXT: how long it is."
    private static void lettersThatAreTaken() {
        for (int first = 0; first <= 255; first += 50) {
            LeafInk ink = new LeafInk();
            for (int letter = first; letter <= 255 && letter < first + 50; letter++) {
                Due.is("write(" + letter + ")", ink.write(letter), letter - first + 1);
            }
        }
    }

    // "BAD"
    private static void lettersThatAreBad() {
        int[] letters = {-1, 256, 'L' + 256, 'L' - 256, Integer.MIN_VALUE, Integer.MAX_VALUE};
        for (int letter : letters) {
            Twins.refused("write(" + letter + ")", ink -> ink.write(letter), LeafInk.BAD);
        }
    }

    // "THE TEXT is letters (56 at most)"; "FULL: there are 56."
    private static void textOf56IsFull() {
        LeafInk ink = new LeafInk();
        for (int length = 1; length <= 56; length++) {
            Due.is("letter " + length, ink.write(0), length);
        }
        for (int time = 0; time < 3; time++) {
            Due.is("the letter behind 56", ink.write(0), LeafInk.FULL);
        }
        Due.is("letters still", ink.about(12), 56);
        Twins.asked("write(0) when full", Twins::crammed, full -> full.write(0), LeafInk.FULL);
        Twins.asked("write(255) when full", Twins::crammed, full -> full.write(255), LeafInk.FULL);
        Twins.asked("write('L') when full", Twins::crammed, full -> full.write('L'), LeafInk.FULL);
        LeafInk wiped = Twins.crammed();
        wiped.wipe();
        Due.is("the first letter when it is wiped", wiped.write('L'), 1);
    }

    // "Of several what is told first."
    private static void badIsToldBeforeFull() {
        Twins.asked("write(256) when full", Twins::crammed, ink -> ink.write(256), LeafInk.BAD);
        Twins.asked("write(-1) when full", Twins::crammed, ink -> ink.write(-1), LeafInk.BAD);
    }

    // "THE TEXT is empty: how long it was."
    private static void wipedFromEmptyToFull() {
        for (int length = 0; length <= 56; length++) {
            LeafInk ink = new LeafInk();
            Due.writeAll(ink, "L".repeat(length));
            Due.is("wipe() of " + length, ink.wipe(), length);
            Due.is("letters then", ink.about(12), 0);
            Due.is("fault() then", ink.fault(), 0);
            Due.is("wipe() of none", ink.wipe(), 0);
        }
    }

    private static void wipeTakesTheTextAlone() {
        LeafInk ink = Twins.rich();
        Due.is("wipe()", ink.wipe(), 16);
        Due.is("leaf() of the empty text", ink.leaf(), LATE);
        Due.writeAll(ink, "L32314159B265358");
        Twins.alike("wiped and written once more", ink, Twins.rich());
    }

    // L; w, h 1 .. 5 each; figures 0 .. 9; B; figures 0 .. 9; and nothing behind them.
    private static void everyLetterAtEveryKindOfPlace() {
        for (int letter = 0; letter <= 255; letter++) {
            boolean isEdge = letter >= '1' && letter <= '5';
            boolean isGrey = letter >= '0' && letter <= '9';
            faultBy("", letter, letter == 'L');
            faultBy("L", letter, isEdge);
            faultBy("L1", letter, isEdge);
            faultBy("L5", letter, isEdge);
            faultBy("L21", letter, isGrey);
            faultBy("L210", letter, isGrey);
            faultBy("L2109", letter, letter == 'B');
            faultBy("L2109B", letter, isGrey);
            faultBy("L2109B99", letter, false);
            LeafInk ink = written("L2109B9");
            ink.write(letter);
            Due.is("L2109B9 and " + letter, ink.fault(), isGrey ? NONE : 7);
        }
    }

    private static void faultBy(String before, int letter, boolean fits) {
        LeafInk ink = written(before);
        ink.write(letter);
        Due.is("'" + before + "' and " + letter, ink.fault(), fits ? before.length() + 1 : before.length());
        // What comes behind a letter by which it can be no LEAF does not matter.
        if (!fits) {
            Due.writeAll(ink, "L119B9");
            Due.is("'" + before + "', " + letter + " and more", ink.fault(), before.length());
        }
    }

    private static void everySizeFromEmptyToTooLong() {
        for (int w = 1; w <= 5; w++) {
            for (int h = 1; h <= 5; h++) {
                String whole = "L" + w + h + "0".repeat(w * h) + "B" + "9".repeat(w * h);
                LeafInk ink = new LeafInk();
                for (int length = 0; length < whole.length(); length++) {
                    Due.is("fault() of " + whole.substring(0, length), ink.fault(), length);
                    Due.is("leaf() of " + whole.substring(0, length), ink.leaf(), LATE);
                    ink.write(whole.charAt(length));
                }
                Due.is("fault() of " + whole, ink.fault(), NONE);
                for (int length = whole.length() + 1; length <= 56; length++) {
                    ink.write('0');
                    Due.is("fault() of " + whole + " and more", ink.fault(), whole.length());
                }
                Due.is("leaf() of " + whole + " and more", ink.leaf(), LATE);
            }
        }
    }

    private static void backAtAnotherPlace() {
        for (int w = 1; w <= 5; w++) {
            for (int h = 1; h <= 5; h++) {
                int dots = w * h;
                String size = "L" + w + h;
                String early = size + "4".repeat(dots - 1) + "B" + "4".repeat(dots + 1);
                Due.is("fault() of " + early, written(early).fault(), 3 + dots - 1);
                String late = size + "4".repeat(dots + 1) + "B" + "4".repeat(dots - 1);
                Due.is("fault() of " + late, written(late).fault(), 3 + dots);
                String twice = size + "4".repeat(dots) + "B" + "4".repeat(dots - 1) + "B";
                Due.is("fault() of " + twice, written(twice).fault(), 4 + 2 * dots - 1);
            }
        }
    }

    // "the place of the first letter by which THE TEXT can be no LEAF"
    private static void ofSeveralFaultsTheFirst() {
        String[] texts = {"l660:b:", "L060:b:", "L160:b:", "L11xybz", "L119xyz", "L119Byz", "L119B9z"};
        for (int place = 0; place < texts.length; place++) {
            Due.is("fault() of " + texts[place], written(texts[place]).fault(), place);
        }
        Due.is("a fault and not at its end", written("L6").fault(), 1);
        Due.is("a fault behind a whole leaf", written("L119B9L119B9").fault(), 6);
        Due.is("two more than the longest", written("L55" + "1".repeat(25) + "B" + "1".repeat(27)).fault(), 54);
    }

    // "its length, if it is only not at its end; NONE: none."
    private static void lengthIfOnlyNotAtItsEnd() {
        Due.is("empty", written("").fault(), 0);
        Due.is("one letter", written("L").fault(), 1);
        Due.is("all but one of the longest", written("L55" + "1".repeat(25) + "B" + "1".repeat(24)).fault(), 53);
        Due.is("the longest", written("L55" + "1".repeat(25) + "B" + "1".repeat(25)).fault(), NONE);
        Due.is("the shortest", written("L110B0").fault(), NONE);
        Due.is("all but one of the shortest", written("L110B").fault(), 5);
        Twins.asked("fault()", Twins::rich, LeafInk::fault, NONE);
        Twins.asked("fault()", Twins::crammed, LeafInk::fault, 16);
    }

    // "LATE: a FAULT." "What is refused changes nothing."
    private static void leafIsLate() {
        Twins.asked("leaf() of no text", LeafInk::new, LeafInk::leaf, LATE);
        Twins.asked("leaf() of a full text", Twins::crammed, LeafInk::leaf, LATE);
        String[] texts = {"", "L", "L32", "L32314159", "L32314159B26535", "L32314159B2653589", "M32314159B265358",
            "L62314159B265358", "L30314159B265358", "L32314159C265358", "L32314159B26535x"};
        for (String text : texts) {
            Twins.asked("leaf() of '" + text + "'", () -> richWith(text), LeafInk::leaf, LATE);
        }
    }

    private static LeafInk richWith(String text) {
        LeafInk ink = Twins.rich();
        ink.wipe();
        Due.writeAll(ink, text);
        return ink;
    }

    // "A LEAF is w wide, h high (1 .. 5 each), of DOTS 0, 1, .. (row by row, from the left)"
    private static void leafOfEverySize() {
        String greys = "0123456789876543210135792";
        for (int w = 1; w <= 5; w++) {
            for (int h = 1; h <= 5; h++) {
                int dots = w * h;
                String back = greys.substring(25 - dots);
                LeafInk ink = written("L" + w + h + greys.substring(0, dots) + "B" + back);
                Due.is("leaf() of " + w + " by " + h, ink.leaf(), dots);
                Due.is("its width", ink.about(0), w);
                Due.is("its height", ink.about(1), h);
                for (int dot = 0; dot < dots; dot++) {
                    Due.is("leaf's dot " + dot, ink.grey(0, dot), greys.charAt(dot) - '0');
                    Due.is("back's dot " + dot, ink.grey(1, dot), back.charAt(dot) - '0');
                }
                Due.is("one dot more", ink.grey(0, dots), UNKNOWN);
                Due.is("one dot more of the back", ink.grey(1, dots), UNKNOWN);
            }
        }
    }

    // "(THE RULE, THE TABLE, THE LIE as at first; no DOINGS; what was kept is gone; ..)"
    private static void leafMakesAllAsAtFirst() {
        LeafInk ink = Twins.rich();
        Due.is("doings before leaf()", ink.about(10), 14);
        Due.is("leaf()", ink.leaf(), 6);
        int[] want = {3, 2, 2, 0, 2, 23, 0, 1, 1, 11, 0, 6, 16};
        for (int what = 0; what < want.length; what++) {
            Due.is("about(" + what + ") behind leaf()", ink.about(what), want[what]);
        }
        for (int grey = 0; grey <= 9; grey++) {
            Due.is("shows(" + grey + ") behind leaf()", ink.shows(grey), 0);
        }
        Due.is("again(0) behind leaf()", ink.again(0), LATE);
        Due.is("again(1) behind leaf()", ink.again(1), LATE);
        Due.is("undo() behind leaf()", ink.undo(), LATE);
        int[] front = {3, 1, 4, 1, 5, 9};
        int[] back = {2, 6, 5, 3, 5, 8};
        for (int dot = 0; dot < 6; dot++) {
            Due.is("leaf's dot " + dot, ink.grey(0, dot), front[dot]);
            Due.is("back's dot " + dot, ink.grey(1, dot), back[dot]);
        }
        for (int doing = 1; doing <= 15; doing++) {
            ink.paint(0, 0, doing % 10);
            Due.is("doings from none", ink.about(10), Math.min(14, doing));
        }
    }

    // "(.. SEEN, THE SEED stay)"
    private static void leafLeavesSeenAndSeed() {
        LeafInk ink = Twins.rich();
        ink.leaf();
        Due.is("the seed behind leaf()", ink.seed(0), -77);
        Due.is("letters behind leaf()", ink.about(12), 16);
        // By RULE 0 DOT 3 (GREY 1) of this LEAF is INK and DOT 4 (GREY 5) is not, by REACHES 1 and 2:
        // S is 10 of 4, then 23 of 6, so that BOUNDS 0, 1 serve, then 0 .. 2.
        Due.is("ways(0) behind leaf()", ink.ways(0), 5);
        Due.is("ways(1) behind leaf()", ink.ways(1), 10);
        Due.is("see() behind leaf()", ink.see(0, 0), LeafInk.FULL);
        Due.is("unsee() behind leaf()", ink.unsee(), 6);
    }

    private static void leafTwiceFromOneText() {
        LeafInk ink = new LeafInk();
        Due.writeAll(ink, "L2119B45");
        Due.is("leaf()", ink.leaf(), 2);
        ink.paint(0, 0, 7);
        Due.is("leaf() once more", ink.leaf(), 2);
        Due.is("its grey as told", ink.grey(0, 0), 1);
        ink.write('0');
        Due.is("a letter more", ink.leaf(), LATE);
        Due.is("its grey still", ink.grey(0, 0), 1);
    }

    private static LeafInk written(String letters) {
        LeafInk ink = new LeafInk();
        Due.writeAll(ink, letters);
        return ink;
    }
}
