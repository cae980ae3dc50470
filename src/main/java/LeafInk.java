// Ink told from stain on a leaf of grey dots that has a back.
// shared/DOC.md says what each call answers; the words in capitals there name the parts here.
public final class LeafInk {
    public static final int UNKNOWN = -1, BAD = -2, LATE = -3, FULL = -4, NONE = -9;

    private static final int MOST_LETTERS = 56, LAST_LETTER = 255;
    private static final int LONGEST_EDGE = 5, MOST_DOTS = 25, ALL_COLUMNS = -1;
    private static final int FIGURES = 10, WHITE = 9;
    private static final int LEAF = 0, BACK = 1;
    private static final int RULES = 3, REACHES = 3, MOST_LIGHT = 9;
    private static final int MOST_DOINGS = 14, MOST_SEEN = 6, SLOTS = 2;
    private static final int MOST_TENTHS = 10, MOST_DRAWN = 20, MOST_TOLD = 3;

    private static final int BRIGHT = 0, STAIN = 1, INK = 2;
    private static final int PAINTED = 1, LIT = 2, RULED = 3, TABLED = 4, LAID = 5;
    private static final int ONE_MARKED = 6, MANY_INK = 7;

    private static final long MULTIPLIER = 6364136223846793005L, INCREMENT = 1442695040888963407L;
    private static final long FIVE_FIGURES = 100000L;
    private static final long[] FIVES = {1L, 100000L, 10000000000L, 1000000000000000L};
    private static final int[] FACTORIALS = {1, 1, 2, 6, 24, 120};

    private final Text text;
    private final Sheet now;
    // What is only tried is tried on this one, so that nothing need be put back.
    private final Sheet trial;
    private final Sheet firstSlot, secondSlot;
    private final Eye eye;
    private final Doings doings;
    private final Seen seen;
    private final int[] inkByRows;
    private int keptSlots;
    private long lastDrawn;

    public LeafInk() {
        text = new Text();
        now = new Sheet();
        trial = new Sheet();
        firstSlot = new Sheet();
        secondSlot = new Sheet();
        eye = new Eye();
        doings = new Doings();
        seen = new Seen();
        inkByRows = new int[1 << LONGEST_EDGE];
        keptSlots = 0;
        lastDrawn = 0L;
    }

    // ---- the leaf

    public int write(int letter) {
        if (letter < 0 || letter > LAST_LETTER) {
            return BAD;
        }
        if (text.isFull()) {
            return FULL;
        }
        return text.append(letter);
    }

    public int wipe() {
        return text.clear();
    }

    public int fault() {
        return text.firstFault();
    }

    public int leaf() {
        if (text.firstFault() != NONE) {
            return LATE;
        }
        now.becomeText(text);
        doings.forgetAll();
        keptSlots = 0;
        return now.dots();
    }

    public int about(int what) {
        switch (what) {
            case 0: return now.width;
            case 1: return now.height;
            case 2: return now.dots() - eye.howMany(now, BRIGHT);
            case 3: return eye.howMany(now, STAIN);
            case 4: return eye.howMany(now, INK);
            case 5: return now.greysTogether();
            case 6: return now.rule;
            case 7: return now.reach;
            case 8: return now.bound;
            case 9: return lieNumber(now.dx, now.dy);
            case 10: return doings.size();
            case 11: return seen.size();
            case 12: return text.size();
            default: return BAD;
        }
    }

    public int grey(int side, int dot) {
        if (!isSide(side) || !now.has(dot)) {
            return UNKNOWN;
        }
        return now.greyOf(side, dot);
    }

    public int shows(int grey) {
        if (!isFigure(grey)) {
            return BAD;
        }
        return now.shownFor(grey);
    }

    public int window(int dot, int what) {
        if (!now.has(dot)) {
            return UNKNOWN;
        }
        eye.lookAt(now, dot, now.reach);
        switch (what) {
            case 0: return eye.countOf(dot);
            case 1: return eye.sumOf(dot);
            case 2: return eye.squaresOf(dot);
            default: return BAD;
        }
    }

    public int spread(int dot, int what, boolean upper) {
        if (!now.has(dot)) {
            return UNKNOWN;
        }
        eye.lookAt(now, dot, now.reach);
        int count = eye.countOf(dot);
        switch (what) {
            case 0: return fraction(eye.sumOf(dot), count, upper);
            case 1: return fraction(eye.unevenness(dot), count * count, upper);
            default: return BAD;
        }
    }

    public int mark(int dot) {
        if (!now.has(dot)) {
            return UNKNOWN;
        }
        eye.lookAt(now, dot, now.reach);
        return eye.markOf(dot, now.bound);
    }

    public int under(int dot) {
        if (!now.has(dot)) {
            return UNKNOWN;
        }
        return now.lyingUnder(dot, now.dx, now.dy);
    }

    public int cleaned(int n) {
        if (n < 0 || n > MOST_DOTS) {
            return BAD;
        }
        eye.look(now, now.reach);
        int ink = eye.dotsMarked(now.bound, INK);
        int unread = ink;
        int left = 0;
        for (int dot = 0; dot < MOST_DOTS; dot++) {
            int start = unread & (1 << dot);
            if (start != 0) {
                int group = now.hangingTogether(start, ink);
                unread &= ~group;
                left |= Integer.bitCount(group) > n ? group : 0;
            }
        }
        return left;
    }

    // ---- doings

    public int paint(int side, int dot, int v) {
        if (!isSide(side) || !now.has(dot)) {
            return UNKNOWN;
        }
        if (!isFigure(v)) {
            return BAD;
        }
        int before = now.greyOf(side, dot);
        doings.add(PAINTED, side, dot, before);
        now.setGrey(side, dot, v);
        return before;
    }

    public int light(int d) {
        if (!isLight(d)) {
            return BAD;
        }
        if (!now.staysGrey(d)) {
            return LATE;
        }
        doings.add(LIT, d, 0, 0);
        now.lighten(d);
        return now.greysTogether();
    }

    public int rule(int rule, int reach, int bound) {
        if (!isRule(rule, reach, bound)) {
            return BAD;
        }
        doings.add(RULED, now.rule, now.reach, now.bound);
        now.setRule(rule, reach, bound);
        return eye.howMany(now, INK);
    }

    public int table(int grey, int v) {
        if (!isFigure(grey) || !isFigure(v)) {
            return BAD;
        }
        int before = now.shownFor(grey);
        doings.add(TABLED, grey, before, 0);
        now.setShown(grey, v);
        return before;
    }

    public int lay(int dx, int dy) {
        if (!isLie(dx, dy)) {
            return BAD;
        }
        doings.add(LAID, now.dx, now.dy, 0);
        now.setLie(dx, dy);
        return eye.howMany(now, INK);
    }

    public int undo() {
        if (doings.size() == 0) {
            return LATE;
        }
        return doings.takeBackLast(now);
    }

    // ---- what fits best

    public int fit(int dx, int dy, boolean upper) {
        if (!isLie(dx, dy)) {
            return BAD;
        }
        int pairs = now.pairs(dx, dy);
        return pairs == 0 ? NONE : fraction(now.difference(dx, dy), pairs, upper);
    }

    public int best(int what) {
        switch (what) {
            case 0: return bestLie();
            case 1: return bestWindow(true);
            case 2: return bestWindow(false);
            default: return BAD;
        }
    }

    public int judge(int n, long row) {
        if (n < 1 || n > MOST_TOLD || row < 0 || row >= FIVES[n]) {
            return BAD;
        }
        trial.copyFrom(now);
        for (int place = 0; place < n; place++) {
            int told = (int) (row / FIVES[n - 1 - place] % FIVE_FIGURES);
            if (!canBe(told)) {
                return place;
            }
        }
        return NONE;
    }

    public int share(int row, boolean upper) {
        if (!now.hasRow(row)) {
            return UNKNOWN;
        }
        int rows = now.height;
        for (int come = 0; come < 1 << rows && come < inkByRows.length; come++) {
            inkByRows[come] = inkWhenCome(come);
        }
        int more = 0;
        for (int come = 0; come < 1 << rows && come < inkByRows.length; come++) {
            int then = come | 1 << row;
            if (then != come && then < inkByRows.length) {
                more += ordersWith(come, rows) * (inkByRows[then] - inkByRows[come]);
            }
        }
        return fraction(more, factorial(rows), upper);
    }

    // ---- seen

    public int see(int dot, int ink) {
        if (!now.has(dot)) {
            return UNKNOWN;
        }
        if (ink != 0 && ink != 1) {
            return BAD;
        }
        if (seen.isFull()) {
            return FULL;
        }
        return seen.add(dot, ink);
    }

    public int unsee() {
        return seen.clear();
    }

    public int ways(int what) {
        if (what != 0 && what != 1) {
            return BAD;
        }
        int first = NONE;
        int many = 0;
        for (int reach = 0; reach < REACHES; reach++) {
            eye.look(now, reach);
            for (int bound = 0; bound < FIGURES; bound++) {
                if (seen.agreesWith(eye.dotsMarked(bound, INK))) {
                    first = many == 0 ? windowNumber(reach, bound) : first;
                    many++;
                }
            }
        }
        return what == 0 ? many : first;
    }

    // ---- chances

    public int bleached(int row, int v, int x, boolean upper) {
        if (!now.hasRow(row)) {
            return UNKNOWN;
        }
        if (v < 0 || v > MOST_DOTS || x < 0 || x > MOST_TENTHS) {
            return BAD;
        }
        int columns = now.width;
        int chance = 0;
        for (int which = 0; which < 1 << columns; which++) {
            if (inkWhenBleached(row, which) >= v) {
                int white = Integer.bitCount(which);
                chance += power(x, white) * power(MOST_TENTHS - x, columns - white);
            }
        }
        return fraction(chance, power(MOST_TENTHS, columns), upper);
    }

    public long seed(long v) {
        long before = lastDrawn;
        lastDrawn = v;
        return before;
    }

    public int drawn(int m) {
        if (m < 1 || m > MOST_DRAWN) {
            return BAD;
        }
        trial.copyFrom(now);
        int together = 0;
        for (int time = 0; time < m; time++) {
            lastDrawn = lastDrawn * MULTIPLIER + INCREMENT;
            int upperBits = (int) (lastDrawn >>> 33);
            trial.setGrey(LEAF, remainder(upperBits, trial.dots()), upperBits / 32 % FIGURES);
            together += eye.howMany(trial, INK);
        }
        return together;
    }

    // ---- slots

    public int keep(int slot) {
        if (!isSlot(slot)) {
            return UNKNOWN;
        }
        slotAt(slot).copyFrom(now);
        keptSlots |= 1 << slot;
        return eye.howMany(now, INK);
    }

    public int again(int slot) {
        if (!isSlot(slot)) {
            return UNKNOWN;
        }
        if ((keptSlots & 1 << slot) == 0) {
            return LATE;
        }
        now.copyFrom(slotAt(slot));
        doings.forgetAll();
        return eye.howMany(now, INK);
    }

    // ---- what may be asked for

    private static boolean isSide(int side) {
        return side == LEAF || side == BACK;
    }

    private static boolean isFigure(int v) {
        return v >= 0 && v < FIGURES;
    }

    private static boolean isLight(int d) {
        return d >= -MOST_LIGHT && d <= MOST_LIGHT;
    }

    private static boolean isRule(int rule, int reach, int bound) {
        return rule >= 0 && rule < RULES && reach >= 0 && reach < REACHES && isFigure(bound);
    }

    private static boolean isLie(int dx, int dy) {
        return dx >= -1 && dx <= 1 && dy >= -1 && dy <= 1;
    }

    private static boolean isSlot(int slot) {
        return slot >= 0 && slot < SLOTS;
    }

    private Sheet slotAt(int slot) {
        return slot == 0 ? firstSlot : secondSlot;
    }

    // ---- ink of a leaf that is only tried

    private int inkWhenCome(int come) {
        trial.copyFrom(now);
        for (int row = 0; row < now.height; row++) {
            if ((come & 1 << row) == 0) {
                trial.whiten(row, ALL_COLUMNS);
            }
        }
        return eye.howMany(trial, INK);
    }

    // In how many orders just these rows have come when one certain row comes next.
    private static int ordersWith(int come, int rows) {
        int before = Integer.bitCount(come);
        return factorial(before) * factorial(rows - 1 - before);
    }

    private int inkWhenBleached(int row, int which) {
        trial.copyFrom(now);
        trial.whiten(row, which);
        return eye.howMany(trial, INK);
    }

    // ---- the best one

    private int bestLie() {
        int best = NONE;
        int leastAbove = 0;
        int leastBelow = 1;
        for (int dx = -1; dx <= 1; dx++) {
            for (int dy = -1; dy <= 1; dy++) {
                int above = now.difference(dx, dy);
                int below = now.pairs(dx, dy);
                if (below > 0 && (best == NONE || above * leastBelow < leastAbove * below)) {
                    best = lieNumber(dx, dy);
                    leastAbove = above;
                    leastBelow = below;
                }
            }
        }
        return best;
    }

    private int bestWindow(boolean most) {
        int best = NONE;
        int bestInk = 0;
        for (int reach = 0; reach < REACHES; reach++) {
            eye.look(now, reach);
            for (int bound = 0; bound < FIGURES; bound++) {
                int ink = Integer.bitCount(eye.dotsMarked(bound, INK));
                boolean counts = most || ink >= 1;
                boolean better = best == NONE || (most ? ink > bestInk : ink < bestInk);
                if (counts && better) {
                    best = windowNumber(reach, bound);
                    bestInk = ink;
                }
            }
        }
        return best;
    }

    private static int lieNumber(int dx, int dy) {
        return 10 * (dx + 1) + dy + 1;
    }

    private static int windowNumber(int reach, int bound) {
        return 10 * reach + bound;
    }

    // ---- told doings, tried one behind the other

    private boolean canBe(int told) {
        int second = told / 1000 % 10;
        int third = told / 100 % 10;
        int fourth = told / 10 % 10;
        int fifth = told % 10;
        int twoInside = 10 * third + fourth;
        boolean endsInZeros = fourth == 0 && fifth == 0;
        switch (told / 10000) {
            case PAINTED: return canPaint(second, twoInside, fifth);
            case LIT: return endsInZeros && canLighten(10 * second + third - MOST_LIGHT);
            case RULED: return fifth == 0 && canRule(second, third, fourth);
            case TABLED: return endsInZeros && canTable(second, third);
            case LAID: return endsInZeros && canLay(second - 1, third - 1);
            case ONE_MARKED: return second == 0 && isSoMarked(twoInside, fifth);
            case MANY_INK: return second == 0 && fifth == 0 && eye.howMany(trial, INK) >= twoInside;
            default: return false;
        }
    }

    private boolean canPaint(int side, int dot, int v) {
        boolean can = isSide(side) && trial.has(dot) && isFigure(v);
        if (can) {
            trial.setGrey(side, dot, v);
        }
        return can;
    }

    private boolean canLighten(int d) {
        boolean can = isLight(d) && trial.staysGrey(d);
        if (can) {
            trial.lighten(d);
        }
        return can;
    }

    private boolean canRule(int rule, int reach, int bound) {
        boolean can = isRule(rule, reach, bound);
        if (can) {
            trial.setRule(rule, reach, bound);
        }
        return can;
    }

    private boolean canTable(int grey, int v) {
        boolean can = isFigure(grey) && isFigure(v);
        if (can) {
            trial.setShown(grey, v);
        }
        return can;
    }

    private boolean canLay(int dx, int dy) {
        boolean can = isLie(dx, dy);
        if (can) {
            trial.setLie(dx, dy);
        }
        return can;
    }

    private boolean isSoMarked(int dot, int ink) {
        if (!trial.has(dot) || ink > 1) {
            return false;
        }
        eye.lookAt(trial, dot, trial.reach);
        boolean isInk = eye.markOf(dot, trial.bound) == INK;
        return isInk == (ink == 1);
    }

    // ---- numbers

    private static int fraction(int above, int below, boolean upper) {
        int common = commonDivisor(Math.abs(above), below);
        if (common == 0) {
            return 0;
        }
        return upper ? above / common : below / common;
    }

    private static int commonDivisor(int a, int b) {
        int big = a;
        int small = b;
        // The smaller one is halved at least every second turn, so 64 turns are plenty for an int.
        for (int turn = 0; turn < 64 && small != 0; turn++) {
            int rest = big % small;
            big = small;
            small = rest;
        }
        return big;
    }

    private static int remainder(int v, int by) {
        return by == 0 ? 0 : v % by;
    }

    private static int factorial(int v) {
        return v >= 0 && v < FACTORIALS.length ? FACTORIALS[v] : 0;
    }

    private static int power(int base, int times) {
        int product = 1;
        for (int time = 0; time < times; time++) {
            product *= base;
        }
        return product;
    }

    // THE TEXT, letter by letter.
    private static final class Text {
        private final int[] letters;
        private int length;

        Text() {
            letters = new int[MOST_LETTERS];
            length = 0;
        }

        int size() {
            return length;
        }

        boolean isFull() {
            return length >= letters.length;
        }

        int append(int letter) {
            if (!isFull()) {
                letters[length] = letter;
                length++;
            }
            return length;
        }

        int clear() {
            int before = length;
            length = 0;
            return before;
        }

        int firstFault() {
            for (int place = 0; place < length; place++) {
                if (!fits(place)) {
                    return place;
                }
            }
            boolean atItsEnd = length > 2 && length == 4 + 2 * dotsTold();
            return atItsEnd ? NONE : length;
        }

        // It is asked place by place, so the letters before this one have been found to fit.
        private boolean fits(int place) {
            int letter = letterAt(place);
            if (place == 0) {
                return letter == 'L';
            }
            if (place <= 2) {
                return letter >= '1' && letter <= '0' + LONGEST_EDGE;
            }
            int dots = dotsTold();
            if (place == 3 + dots) {
                return letter == 'B';
            }
            return place < 4 + 2 * dots && letter >= '0' && letter <= '9';
        }

        private int letterAt(int place) {
            return place >= 0 && place < length ? letters[place] : 0;
        }

        int figureAt(int place) {
            return Math.max(0, Math.min(letterAt(place) - '0', FIGURES - 1));
        }

        private int dotsTold() {
            return figureAt(1) * figureAt(2);
        }
    }

    // THE LEAF with its BACK, and all by which its ink is read.
    private static final class Sheet {
        private final int[] front, back, shown;
        int width, height;
        int rule, reach, bound;
        int dx, dy;

        Sheet() {
            front = new int[MOST_DOTS];
            back = new int[MOST_DOTS];
            shown = new int[FIGURES];
            width = 1;
            height = 1;
            front[0] = WHITE;
            back[0] = WHITE;
            rule = 0;
            reach = 1;
            bound = 1;
            dx = 0;
            dy = 0;
        }

        void becomeText(Text text) {
            width = text.figureAt(1);
            height = text.figureAt(2);
            for (int dot = 0; dot < dots(); dot++) {
                setGrey(LEAF, dot, text.figureAt(3 + dot));
                setGrey(BACK, dot, text.figureAt(4 + dots() + dot));
            }
            for (int grey = 0; grey < FIGURES; grey++) {
                setShown(grey, 0);
            }
            setRule(0, 1, 1);
            setLie(0, 0);
        }

        void copyFrom(Sheet other) {
            width = other.width;
            height = other.height;
            System.arraycopy(other.front, 0, front, 0, MOST_DOTS);
            System.arraycopy(other.back, 0, back, 0, MOST_DOTS);
            System.arraycopy(other.shown, 0, shown, 0, FIGURES);
            setRule(other.rule, other.reach, other.bound);
            setLie(other.dx, other.dy);
        }

        int dots() {
            return width * height;
        }

        boolean has(int dot) {
            return dot >= 0 && dot < width * height && dot < MOST_DOTS;
        }

        boolean hasRow(int row) {
            return row >= 0 && row < height;
        }

        int greyOf(int side, int dot) {
            if (dot < 0 || dot >= MOST_DOTS) {
                return WHITE;
            }
            return side == LEAF ? front[dot] : back[dot];
        }

        void setGrey(int side, int dot, int v) {
            if (has(dot)) {
                if (side == LEAF) {
                    front[dot] = v;
                } else {
                    back[dot] = v;
                }
            }
        }

        int shownFor(int grey) {
            return grey >= 0 && grey < FIGURES ? shown[grey] : 0;
        }

        void setShown(int grey, int v) {
            if (isFigure(grey)) {
                shown[grey] = v;
            }
        }

        void setRule(int newRule, int newReach, int newBound) {
            rule = newRule;
            reach = newReach;
            bound = newBound;
        }

        void setLie(int newDx, int newDy) {
            dx = newDx;
            dy = newDy;
        }

        int greysTogether() {
            int together = 0;
            for (int dot = 0; dot < dots(); dot++) {
                together += greyOf(LEAF, dot);
            }
            return together;
        }

        boolean staysGrey(int d) {
            boolean stays = true;
            for (int dot = 0; dot < dots(); dot++) {
                stays = stays && isFigure(greyOf(LEAF, dot) + d);
            }
            return stays;
        }

        void lighten(int d) {
            for (int dot = 0; dot < dots(); dot++) {
                setGrey(LEAF, dot, greyOf(LEAF, dot) + d);
            }
        }

        void whiten(int row, int columns) {
            for (int x = 0; x < width; x++) {
                if ((columns & 1 << x) != 0) {
                    setGrey(LEAF, row * width + x, WHITE);
                }
            }
        }

        int columnOf(int dot) {
            return width == 0 ? 0 : dot % width;
        }

        int rowOf(int dot) {
            return width == 0 ? 0 : dot / width;
        }

        int lyingUnder(int dot, int byX, int byY) {
            if (width == 0) {
                return NONE;
            }
            int x = width - 1 - dot % width + byX;
            int y = dot / width + byY;
            boolean isThere = x >= 0 && x < width && y >= 0 && y < height;
            return isThere ? y * width + x : NONE;
        }

        // What the GREY of a DOT would be without what shows through of the BACK.
        int greyAlone(int dot) {
            int grey = greyOf(LEAF, dot);
            int behind = lyingUnder(dot, dx, dy);
            return behind == NONE ? grey : Math.min(WHITE, grey + shownFor(greyOf(BACK, behind)));
        }

        int pairs(int byX, int byY) {
            int pairs = 0;
            for (int dot = 0; dot < dots(); dot++) {
                pairs += lyingUnder(dot, byX, byY) == NONE ? 0 : 1;
            }
            return pairs;
        }

        int difference(int byX, int byY) {
            int together = 0;
            for (int dot = 0; dot < dots(); dot++) {
                int behind = lyingUnder(dot, byX, byY);
                if (behind != NONE) {
                    int differ = greyOf(LEAF, dot) - greyOf(BACK, behind);
                    together += differ * differ;
                }
            }
            return together;
        }

        int hangingTogether(int start, int ink) {
            int group = start;
            int before = 0;
            for (int step = 0; step < MOST_DOTS && group != before; step++) {
                before = group;
                group = ink & withNeighbours(group);
            }
            return group;
        }

        // Bits at the edge must not step over into the row beside theirs.
        private int withNeighbours(int group) {
            int firstColumn = 0;
            for (int row = 0; row < height; row++) {
                firstColumn |= 1 << row * width;
            }
            int lastColumn = firstColumn << width - 1;
            int sideways = group | (group & ~lastColumn) << 1 | (group & ~firstColumn) >>> 1;
            return sideways | sideways << width | sideways >>> width;
        }
    }

    // Reads WINDOWS, and by them what each DOT is. What a look has found serves every BOUND.
    private static final class Eye {
        private final int[] counts, sums, squares, greys, alone;
        private int rule, dots;

        Eye() {
            counts = new int[MOST_DOTS];
            sums = new int[MOST_DOTS];
            squares = new int[MOST_DOTS];
            greys = new int[MOST_DOTS];
            alone = new int[MOST_DOTS];
            rule = 0;
            dots = 0;
        }

        int howMany(Sheet sheet, int mark) {
            look(sheet, sheet.reach);
            return Integer.bitCount(dotsMarked(sheet.bound, mark));
        }

        void look(Sheet sheet, int reach) {
            dots = sheet.dots();
            for (int dot = 0; dot < dots; dot++) {
                lookAt(sheet, dot, reach);
            }
        }

        void lookAt(Sheet sheet, int dot, int reach) {
            if (!sheet.has(dot)) {
                return;
            }
            rule = sheet.rule;
            greys[dot] = sheet.greyOf(LEAF, dot);
            alone[dot] = sheet.greyAlone(dot);
            int x = sheet.columnOf(dot);
            int y = sheet.rowOf(dot);
            int left = Math.max(0, x - reach);
            int right = Math.min(sheet.width - 1, x + reach);
            int top = Math.max(0, y - reach);
            int bottom = Math.min(sheet.height - 1, y + reach);
            counts[dot] = (right - left + 1) * (bottom - top + 1);
            sums[dot] = 0;
            squares[dot] = 0;
            for (int row = top; row <= bottom; row++) {
                for (int column = left; column <= right; column++) {
                    int grey = sheet.greyOf(LEAF, row * sheet.width + column);
                    sums[dot] += grey;
                    squares[dot] += grey * grey;
                }
            }
        }

        int countOf(int dot) {
            return isPlace(dot) ? counts[dot] : 0;
        }

        int sumOf(int dot) {
            return isPlace(dot) ? sums[dot] : 0;
        }

        int squaresOf(int dot) {
            return isPlace(dot) ? squares[dot] : 0;
        }

        int unevenness(int dot) {
            return isPlace(dot) ? counts[dot] * squares[dot] - sums[dot] * sums[dot] : 0;
        }

        int dotsMarked(int bound, int mark) {
            int bits = 0;
            for (int dot = 0; dot < dots; dot++) {
                if (markOf(dot, bound) == mark) {
                    bits |= 1 << dot;
                }
            }
            return bits;
        }

        int markOf(int dot, int bound) {
            if (!isPlace(dot) || !isDark(dot, greys[dot], bound)) {
                return BRIGHT;
            }
            return isDark(dot, alone[dot], bound) ? INK : STAIN;
        }

        private boolean isDark(int dot, int v, int bound) {
            if (!isPlace(dot)) {
                return false;
            }
            int count = counts[dot];
            int more = sums[dot] - count * v;
            int uneven = count * squares[dot] - sums[dot] * sums[dot];
            switch (rule) {
                case 0: return more > count * bound;
                case 1: return more > 0 && 100 * more * more > bound * bound * uneven;
                default: return v < bound;
            }
        }

        private static boolean isPlace(int dot) {
            return dot >= 0 && dot < MOST_DOTS;
        }
    }

    // The DOINGS that can be undone, each with what it changed as it was before.
    private static final class Doings {
        private final int[] kinds, firsts, seconds, thirds;
        private int size;

        Doings() {
            kinds = new int[MOST_DOINGS];
            firsts = new int[MOST_DOINGS];
            seconds = new int[MOST_DOINGS];
            thirds = new int[MOST_DOINGS];
            size = 0;
        }

        int size() {
            return size;
        }

        void forgetAll() {
            size = 0;
        }

        void add(int kind, int first, int second, int third) {
            if (size >= MOST_DOINGS) {
                forgetFirst();
            }
            kinds[size] = kind;
            firsts[size] = first;
            seconds[size] = second;
            thirds[size] = third;
            size++;
        }

        private void forgetFirst() {
            size = MOST_DOINGS - 1;
            System.arraycopy(kinds, 1, kinds, 0, size);
            System.arraycopy(firsts, 1, firsts, 0, size);
            System.arraycopy(seconds, 1, seconds, 0, size);
            System.arraycopy(thirds, 1, thirds, 0, size);
        }

        int takeBackLast(Sheet sheet) {
            if (size > 0) {
                size--;
                takeBack(sheet, firsts[size], seconds[size], thirds[size]);
            }
            return size;
        }

        private void takeBack(Sheet sheet, int first, int second, int third) {
            switch (kinds[size]) {
                case PAINTED:
                    sheet.setGrey(first, second, third);
                    break;
                case LIT:
                    sheet.lighten(-first);
                    break;
                case RULED:
                    sheet.setRule(first, second, third);
                    break;
                case TABLED:
                    sheet.setShown(first, second);
                    break;
                default:
                    sheet.setLie(first, second);
                    break;
            }
        }
    }

    // What was SEEN of DOTS. A DOT may be one that a later LEAF has not.
    private static final class Seen {
        private final int[] dots, inks;
        private int size;

        Seen() {
            dots = new int[MOST_SEEN];
            inks = new int[MOST_SEEN];
            size = 0;
        }

        int size() {
            return size;
        }

        boolean isFull() {
            return size >= MOST_SEEN;
        }

        int add(int dot, int ink) {
            if (!isFull()) {
                dots[size] = dot;
                inks[size] = ink;
                size++;
            }
            return size;
        }

        int clear() {
            int before = size;
            size = 0;
            return before;
        }

        boolean agreesWith(int inkBits) {
            boolean agrees = true;
            for (int place = 0; place < size; place++) {
                agrees = agrees && (inkBits >> dots[place] & 1) == inks[place];
            }
            return agrees;
        }
    }
}
