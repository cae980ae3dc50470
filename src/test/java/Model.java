import java.math.BigInteger;
import java.util.ArrayList;
import java.util.Arrays;
import java.util.LinkedList;
import java.util.List;
import java.util.Set;
import java.util.TreeSet;
import java.util.regex.Matcher;
import java.util.regex.Pattern;

/** A second reading of the document, slow and plain, and written apart from the program. */
final class Model {
    static final int UNKNOWN = -1, BAD = -2, LATE = -3, FULL = -4, NONE = -9;
    private static final Pattern LEAF = leafPattern();

    /** All that a slot keeps, and that a doing changes. */
    private static final class State {
        int w = 1, h = 1, rule = 0, reach = 1, bound = 1, dx = 0, dy = 0;
        int[][] sides = {{9}, {9}};
        int[] table = new int[10];

        State copy() {
            State other = new State();
            other.w = w;
            other.h = h;
            other.rule = rule;
            other.reach = reach;
            other.bound = bound;
            other.dx = dx;
            other.dy = dy;
            other.sides = new int[][] {sides[0].clone(), sides[1].clone()};
            other.table = table.clone();
            return other;
        }

        List<Integer> window(int dot, int r) {
            List<Integer> greys = new ArrayList<>();
            for (int other = 0; other < w * h; other++) {
                if (Math.abs(other % w - dot % w) <= r && Math.abs(other / w - dot / w) <= r) {
                    greys.add(sides[0][other]);
                }
            }
            return greys;
        }

        boolean dark(int dot, int v, int r, int c) {
            List<Integer> greys = window(dot, r);
            long n = greys.size();
            long s = greys.stream().mapToInt(g -> g).sum();
            long q = greys.stream().mapToInt(g -> g * g).sum();
            if (rule == 0) {
                return n * v + n * c < s;
            }
            if (rule == 1) {
                return n * v < s && 100 * (s - n * v) * (s - n * v) > c * c * (n * q - s * s);
            }
            return v < c;
        }

        Integer under(int dot, int lx, int ly) {
            int x = w - 1 - dot % w + lx;
            int y = dot / w + ly;
            if (x < 0 || x >= w || y < 0 || y >= h) {
                return null;
            }
            return x + y * w;
        }

        int mark(int dot, int r, int c) {
            int v = sides[0][dot];
            if (!dark(dot, v, r, c)) {
                return 0;
            }
            Integer behind = under(dot, dx, dy);
            if (behind == null) {
                return 2;
            }
            int more = v + table[sides[1][behind]];
            return dark(dot, more > 9 ? 9 : more, r, c) ? 2 : 1;
        }

        Set<Integer> marked(int mark, int r, int c) {
            Set<Integer> dots = new TreeSet<>();
            for (int dot = 0; dot < w * h; dot++) {
                if (mark(dot, r, c) == mark) {
                    dots.add(dot);
                }
            }
            return dots;
        }

        Set<Integer> ink() {
            return marked(2, reach, bound);
        }

        boolean light(int d) {
            if (d < -9 || d > 9 || Arrays.stream(sides[0]).anyMatch(g -> g + d < 0 || g + d > 9)) {
                return false;
            }
            sides[0] = Arrays.stream(sides[0]).map(g -> g + d).toArray();
            return true;
        }
    }

    private String text = "";
    private State now = new State();
    private final LinkedList<State> before = new LinkedList<>();
    private final State[] slots = new State[2];
    private final List<int[]> seen = new ArrayList<>();
    private long seed = 0;

    private static Pattern leafPattern() {
        StringBuilder all = new StringBuilder();
        for (int w = 1; w <= 5; w++) {
            for (int h = 1; h <= 5; h++) {
                all.append(all.length() == 0 ? "" : "|").append('L').append(w).append(h);
                all.append("[0-9]{").append(w * h).append("}B[0-9]{").append(w * h).append('}');
            }
        }
        return Pattern.compile(all.toString());
    }

    private boolean dot(int dot) {
        return 0 <= dot && dot <= now.w * now.h - 1;
    }

    private static boolean within(int v, int least, int most) {
        return least <= v && v <= most;
    }

    private void doing() {
        before.addLast(now.copy());
        if (before.size() > 14) {
            before.removeFirst();
        }
    }

    private static int told(long above, long below, boolean upper) {
        BigInteger common = BigInteger.valueOf(above).gcd(BigInteger.valueOf(below));
        return BigInteger.valueOf(upper ? above : below).divide(common).intValueExact();
    }

    int write(int letter) {
        if (!within(letter, 0, 255)) {
            return BAD;
        }
        if (text.length() == 56) {
            return FULL;
        }
        text += (char) letter;
        return text.length();
    }

    int wipe() {
        int length = text.length();
        text = "";
        return length;
    }

    int fault() {
        if (LEAF.matcher(text).matches()) {
            return NONE;
        }
        for (int place = 0; place < text.length(); place++) {
            Matcher begin = LEAF.matcher(text.substring(0, place + 1));
            if (!begin.matches() && !begin.hitEnd()) {
                return place;
            }
        }
        return text.length();
    }

    int leaf() {
        if (fault() != NONE) {
            return LATE;
        }
        State fresh = new State();
        fresh.w = text.charAt(1) - '0';
        fresh.h = text.charAt(2) - '0';
        String[] told = text.substring(3).split("B");
        fresh.sides = new int[][] {told[0].chars().map(c -> c - '0').toArray(), told[1].chars().map(c -> c - '0').toArray()};
        now = fresh;
        before.clear();
        slots[0] = null;
        slots[1] = null;
        return fresh.w * fresh.h;
    }

    int about(int what) {
        if (!within(what, 0, 12)) {
            return BAD;
        }
        int stains = now.marked(1, now.reach, now.bound).size();
        int ink = now.ink().size();
        int greys = Arrays.stream(now.sides[0]).sum();
        int lie = 10 * (now.dx + 1) + (now.dy + 1);
        return new int[] {now.w, now.h, stains + ink, stains, ink, greys, now.rule, now.reach, now.bound, lie,
            before.size(), seen.size(), text.length()}[what];
    }

    int grey(int side, int dot) {
        return within(side, 0, 1) && dot(dot) ? now.sides[side][dot] : UNKNOWN;
    }

    int shows(int grey) {
        return within(grey, 0, 9) ? now.table[grey] : BAD;
    }

    int window(int dot, int what) {
        if (!dot(dot)) {
            return UNKNOWN;
        }
        if (!within(what, 0, 2)) {
            return BAD;
        }
        int total = 0;
        for (int grey : now.window(dot, now.reach)) {
            total += what == 0 ? 1 : what == 1 ? grey : grey * grey;
        }
        return total;
    }

    int spread(int dot, int what, boolean upper) {
        if (!dot(dot)) {
            return UNKNOWN;
        }
        if (!within(what, 0, 1)) {
            return BAD;
        }
        long n = window(dot, 0);
        long s = window(dot, 1);
        long q = window(dot, 2);
        return what == 0 ? told(s, n, upper) : told(n * q - s * s, n * n, upper);
    }

    int mark(int dot) {
        return dot(dot) ? now.mark(dot, now.reach, now.bound) : UNKNOWN;
    }

    int under(int dot) {
        if (!dot(dot)) {
            return UNKNOWN;
        }
        Integer behind = now.under(dot, now.dx, now.dy);
        return behind == null ? NONE : behind;
    }

    int cleaned(int n) {
        if (!within(n, 0, 25)) {
            return BAD;
        }
        Set<Integer> rest = now.ink();
        int bits = 0;
        while (!rest.isEmpty()) {
            Set<Integer> group = new TreeSet<>();
            gather(rest.iterator().next(), rest, group);
            if (group.size() > n) {
                for (int dot : group) {
                    bits += 1 << dot;
                }
            }
        }
        return bits;
    }

    private void gather(int dot, Set<Integer> rest, Set<Integer> group) {
        if (!rest.remove(dot)) {
            return;
        }
        group.add(dot);
        for (int other = 0; other < now.w * now.h; other++) {
            if (Math.abs(other % now.w - dot % now.w) <= 1 && Math.abs(other / now.w - dot / now.w) <= 1) {
                gather(other, rest, group);
            }
        }
    }

    int paint(int side, int dot, int v) {
        if (!within(side, 0, 1) || !dot(dot)) {
            return UNKNOWN;
        }
        if (!within(v, 0, 9)) {
            return BAD;
        }
        doing();
        int was = now.sides[side][dot];
        now.sides[side][dot] = v;
        return was;
    }

    int light(int d) {
        if (!within(d, -9, 9)) {
            return BAD;
        }
        if (!now.copy().light(d)) {
            return LATE;
        }
        doing();
        now.light(d);
        return about(5);
    }

    int rule(int rule, int reach, int bound) {
        if (!within(rule, 0, 2) || !within(reach, 0, 2) || !within(bound, 0, 9)) {
            return BAD;
        }
        doing();
        now.rule = rule;
        now.reach = reach;
        now.bound = bound;
        return about(4);
    }

    int table(int grey, int v) {
        if (!within(grey, 0, 9) || !within(v, 0, 9)) {
            return BAD;
        }
        doing();
        int was = now.table[grey];
        now.table[grey] = v;
        return was;
    }

    int lay(int dx, int dy) {
        if (!within(dx, -1, 1) || !within(dy, -1, 1)) {
            return BAD;
        }
        doing();
        now.dx = dx;
        now.dy = dy;
        return about(4);
    }

    int undo() {
        if (before.isEmpty()) {
            return LATE;
        }
        now = before.removeLast();
        return before.size();
    }

    /** The squares together and how many, or null if there is none. */
    private long[] fitOf(int dx, int dy) {
        long squares = 0;
        long many = 0;
        for (int dot = 0; dot < now.w * now.h; dot++) {
            Integer behind = now.under(dot, dx, dy);
            if (behind != null) {
                squares += (long) Math.pow(now.sides[0][dot] - now.sides[1][behind], 2);
                many++;
            }
        }
        return many == 0 ? null : new long[] {squares, many};
    }

    int fit(int dx, int dy, boolean upper) {
        if (!within(dx, -1, 1) || !within(dy, -1, 1)) {
            return BAD;
        }
        long[] fit = fitOf(dx, dy);
        return fit == null ? NONE : told(fit[0], fit[1], upper);
    }

    int best(int what) {
        if (!within(what, 0, 2)) {
            return BAD;
        }
        return what == 0 ? bestLie() : bestWindow(what == 1);
    }

    private int bestLie() {
        int best = NONE;
        double least = Double.MAX_VALUE;
        for (int code : new int[] {0, 1, 2, 10, 11, 12, 20, 21, 22}) {
            long[] fit = fitOf(code / 10 - 1, code % 10 - 1);
            // Two unlike fractions with numbers below 26 below the line differ by more than a thousandth.
            if (fit != null && fit[0] / (double) fit[1] < least - 0.0001) {
                least = fit[0] / (double) fit[1];
                best = code;
            }
        }
        return best;
    }

    private int bestWindow(boolean most) {
        int[] ink = new int[30];
        for (int code = 0; code < 30; code++) {
            ink[code] = now.marked(2, code / 10, code % 10).size();
        }
        int goal = most ? Arrays.stream(ink).max().getAsInt() : Arrays.stream(ink).filter(i -> i > 0).min().orElse(-1);
        for (int code = 0; code < 30; code++) {
            if (ink[code] == goal) {
                return code;
            }
        }
        return NONE;
    }

    int judge(int n, long row) {
        if (!within(n, 1, 3) || row < 0 || Long.toString(row).length() > 5 * n) {
            return BAD;
        }
        String figures = String.format("%0" + 5 * n + "d", row);
        State kept = now;
        LinkedList<State> keptBefore = new LinkedList<>(before);
        now = now.copy();
        int place = 0;
        while (place < n && canBe(figures.substring(5 * place, 5 * place + 5))) {
            place++;
        }
        now = kept;
        before.clear();
        before.addAll(keptBefore);
        return place == n ? NONE : place;
    }

    private boolean canBe(String told) {
        int[] f = told.chars().map(c -> c - '0').toArray();
        int dot = Integer.parseInt(told.substring(2, 4));
        switch (told.charAt(0)) {
            case '1': return paint(f[1], dot, f[4]) >= 0;
            case '2': return told.endsWith("00") && light(Integer.parseInt(told.substring(1, 3)) - 9) >= 0;
            case '3': return told.endsWith("0") && rule(f[1], f[2], f[3]) >= 0;
            case '4': return told.endsWith("00") && table(f[1], f[2]) >= 0;
            case '5': return told.endsWith("00") && lay(f[1] - 1, f[2] - 1) >= 0;
            case '6': return f[1] == 0 && dot(dot) && f[4] <= 1 && (mark(dot) == 2) == (f[4] == 1);
            case '7': return f[1] == 0 && f[4] == 0 && now.ink().size() >= dot;
            default: return false;
        }
    }

    int share(int row, boolean upper) {
        if (!within(row, 0, now.h - 1)) {
            return UNKNOWN;
        }
        List<List<Integer>> orders = new ArrayList<>();
        ordersOf(new ArrayList<>(), orders);
        long more = 0;
        for (List<Integer> order : orders) {
            List<Integer> come = order.subList(0, order.indexOf(row));
            List<Integer> then = order.subList(0, order.indexOf(row) + 1);
            more += inkOfRows(then) - inkOfRows(come);
        }
        return told(more, orders.size(), upper);
    }

    private void ordersOf(List<Integer> begun, List<List<Integer>> orders) {
        if (begun.size() == now.h) {
            orders.add(new ArrayList<>(begun));
        }
        for (int row = 0; row < now.h; row++) {
            if (!begun.contains(row)) {
                begun.add(row);
                ordersOf(begun, orders);
                begun.remove(begun.size() - 1);
            }
        }
    }

    private int inkOfRows(List<Integer> come) {
        State part = now.copy();
        for (int dot = 0; dot < now.w * now.h; dot++) {
            if (!come.contains(dot / now.w)) {
                part.sides[0][dot] = 9;
            }
        }
        return part.ink().size();
    }

    int see(int dot, int ink) {
        if (!dot(dot)) {
            return UNKNOWN;
        }
        if (!within(ink, 0, 1)) {
            return BAD;
        }
        if (seen.size() == 6) {
            return FULL;
        }
        seen.add(new int[] {dot, ink});
        return seen.size();
    }

    int unsee() {
        int many = seen.size();
        seen.clear();
        return many;
    }

    int ways(int what) {
        if (!within(what, 0, 1)) {
            return BAD;
        }
        List<Integer> ways = new ArrayList<>();
        for (int code = 0; code < 30; code++) {
            Set<Integer> ink = now.marked(2, code / 10, code % 10);
            if (seen.stream().allMatch(s -> ink.contains(s[0]) == (s[1] == 1))) {
                ways.add(code);
            }
        }
        return what == 0 ? ways.size() : ways.isEmpty() ? NONE : ways.get(0);
    }

    int bleached(int row, int v, int x, boolean upper) {
        if (!within(row, 0, now.h - 1)) {
            return UNKNOWN;
        }
        if (!within(v, 0, 25) || !within(x, 0, 10)) {
            return BAD;
        }
        return told(chance(now.copy(), row * now.w, (row + 1) * now.w, v, x), (long) Math.pow(10, now.w), upper);
    }

    private long chance(State state, int dot, int end, int v, int x) {
        if (dot == end) {
            return state.ink().size() >= v ? 1 : 0;
        }
        State white = state.copy();
        white.sides[0][dot] = 9;
        return x * chance(white, dot + 1, end, v, x) + (10 - x) * chance(state, dot + 1, end, v, x);
    }

    long seed(long v) {
        long was = seed;
        seed = v;
        return was;
    }

    int drawn(int m) {
        if (!within(m, 1, 20)) {
            return BAD;
        }
        State state = now.copy();
        int together = 0;
        for (int time = 0; time < m; time++) {
            seed = BigInteger.valueOf(seed).multiply(new BigInteger("6364136223846793005"))
                    .add(new BigInteger("1442695040888963407")).longValue();
            long upper = Long.parseLong(String.format("%64s", Long.toBinaryString(seed)).replace(' ', '0').substring(0, 31), 2);
            state.sides[0][(int) (upper % (now.w * now.h))] = (int) (Math.floorDiv(upper, 32L) % 10);
            together += state.ink().size();
        }
        return together;
    }

    int keep(int slot) {
        if (!within(slot, 0, 1)) {
            return UNKNOWN;
        }
        slots[slot] = now.copy();
        return about(4);
    }

    int again(int slot) {
        if (!within(slot, 0, 1)) {
            return UNKNOWN;
        }
        if (slots[slot] == null) {
            return LATE;
        }
        now = slots[slot].copy();
        before.clear();
        return about(4);
    }
}
