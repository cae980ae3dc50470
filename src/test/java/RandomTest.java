import java.lang.reflect.Method;
import java.util.ArrayList;
import java.util.Arrays;
import java.util.List;
import java.util.Random;

/** Long runs of calls by chance, from seeds that stay: each answer is compared with the Model's. */
public final class RandomTest {
    private static final int RUNS = 400, CALLS = 512, SHOWN = 5;

    private final Random random;
    private final LeafInk ink = new LeafInk();
    private final Model model = new Model();
    private final List<String> calls = new ArrayList<>();
    private boolean wrong = false;

    private RandomTest(long seed) {
        random = new Random(seed);
    }

    public static void main(String[] args) {
        int wrongRuns = 0;
        for (int run = 0; run < RUNS && wrongRuns < SHOWN; run++) {
            RandomTest test = new RandomTest(run);
            test.run();
            if (test.wrong) {
                wrongRuns++;
                System.out.println("run " + run + ": " + String.join("; ", test.calls));
            }
        }
        System.out.println(RUNS + " runs, " + wrongRuns + " wrong");
        if (wrongRuns != 0) {
            System.exit(1);
        }
    }

    private void run() {
        while (calls.size() < CALLS && !wrong) {
            if (calls.isEmpty() || random.nextInt(70) == 0) {
                tell();
            } else {
                call(random.nextInt(28));
            }
        }
    }

    private void tell() {
        both("wipe");
        String text = text();
        for (int place = 0; place < text.length(); place++) {
            both("write", (int) text.charAt(place));
        }
        both("fault");
        both("leaf");
    }

    private String text() {
        int w = 1 + random.nextInt(5);
        int h = 1 + random.nextInt(5);
        int kind = random.nextInt(4);
        StringBuilder text = new StringBuilder().append('L').append(w).append(h);
        greys(text, w * h, kind);
        text.append('B');
        greys(text, w * h, kind);
        if (random.nextInt(6) == 0) {
            text.setCharAt(random.nextInt(text.length()), (char) (random.nextBoolean() ? random.nextInt(256) : 'B'));
        }
        if (random.nextInt(12) == 0) {
            text.append(random.nextInt(10));
        }
        if (random.nextInt(12) == 0) {
            text.setLength(random.nextInt(text.length()));
        }
        return text.toString();
    }

    private void greys(StringBuilder text, int dots, int kind) {
        for (int dot = 0; dot < dots; dot++) {
            boolean dark = random.nextInt(3) == 0;
            int any = random.nextInt(10);
            int few = dark ? random.nextInt(3) : 7 + random.nextInt(3);
            int two = dark ? 1 : 9;
            text.append(kind == 0 ? two : kind == 1 ? few : any);
        }
    }

    /** Mostly one of these, now and then one beside them or far away. */
    private int some(int least, int most) {
        switch (random.nextInt(60)) {
            case 0: return least - 1;
            case 1: return most + 1;
            case 2: return random.nextBoolean() ? Integer.MIN_VALUE : Integer.MAX_VALUE;
            case 3: return random.nextInt();
            case 4: return random.nextInt(64);
            default: return least + random.nextInt(most - least + 1);
        }
    }

    private int dot() {
        return some(0, model.about(0) * model.about(1) - 1);
    }

    private int row() {
        return some(0, model.about(1) - 1);
    }

    private long told(int n) {
        if (random.nextInt(30) == 0) {
            return random.nextLong() >> random.nextInt(40);
        }
        long row = 0;
        for (int place = 0; place < n; place++) {
            row = row * 100000 + toldOne();
        }
        return row;
    }

    private long toldOne() {
        int dot = random.nextInt(model.about(0) * model.about(1) + (random.nextInt(8) == 0 ? 3 : 0));
        int slip = random.nextInt(25) == 0 ? random.nextInt(100) : 0;
        switch (random.nextInt(8)) {
            case 0: return 10000 + 1000 * random.nextInt(random.nextInt(9) == 0 ? 10 : 2) + 10 * dot + random.nextInt(10);
            case 1: return 20000 + 100 * (7 + random.nextInt(5)) + slip;
            case 2: return 30000 + 1000 * random.nextInt(3) + 100 * random.nextInt(3) + 10 * random.nextInt(10) + slip;
            case 3: return 40000 + 100 * random.nextInt(100) + slip;
            case 4: return 50000 + 1000 * random.nextInt(3) + 100 * random.nextInt(3) + slip;
            case 5: return 60000 + 10 * dot + random.nextInt(2) + slip;
            case 6: return 70000 + 10 * random.nextInt(12) + slip;
            default: return random.nextInt(12) == 0 ? random.nextInt(100000) : 60000 + 10 * dot;
        }
    }

    private void call(int which) {
        boolean upper = random.nextBoolean();
        switch (which) {
            case 0: both("write", some(0, 255)); break;
            case 1: both(random.nextInt(9) == 0 ? "leaf" : "fault"); break;
            case 2: both("about", some(0, 12)); break;
            case 3: both("grey", some(0, 1), dot()); break;
            case 4: both("shows", some(0, 9)); break;
            case 5: both("window", dot(), some(0, 2)); break;
            case 6: both("spread", dot(), some(0, 1), upper); break;
            case 7: both("mark", dot()); break;
            case 8: both("under", dot()); break;
            case 9: both("cleaned", some(0, either(25, 4))); break;
            case 10: both("paint", some(0, 1), dot(), some(0, 9)); break;
            case 11: both("light", upper ? some(-9, 9) : some(-2, 2)); break;
            case 12: both("rule", some(0, 2), some(0, 2), some(0, either(9, 3))); break;
            case 13: both("table", some(0, 9), some(0, 9)); break;
            case 14: both("lay", some(-1, 1), some(-1, 1)); break;
            case 15: both("undo"); break;
            case 16: both("fit", some(-1, 1), some(-1, 1), upper); break;
            case 17: both("best", some(0, 2)); break;
            case 18: judge(); break;
            case 19: both("share", row(), upper); break;
            case 20: both("see", dot(), some(0, 1)); break;
            case 21: both(random.nextInt(4) == 0 ? "unsee" : "fault"); break;
            case 22: both("ways", some(0, 1)); break;
            case 23: both("bleached", row(), some(0, either(25, 6)), some(0, 10), upper); break;
            case 24: both("seed", upper ? random.nextLong() : random.nextInt(10)); break;
            case 25: both("drawn", some(1, 20)); break;
            case 26: both("keep", some(0, 1)); break;
            default: both("again", some(0, 1)); break;
        }
    }

    private int either(int one, int other) {
        return random.nextBoolean() ? one : other;
    }

    private void judge() {
        int n = some(1, 3);
        both("judge", n, told(Math.min(3, Math.max(1, n))));
    }

    private void both(String name, Object... arguments) {
        // Nothing is promised of an object behind its 512th call.
        if (wrong || calls.size() >= CALLS) {
            return;
        }
        long got = ask(ink, name, arguments);
        long want = ask(model, name, arguments);
        calls.add(name + Arrays.toString(arguments) + " " + got);
        if (got != want) {
            wrong = true;
            calls.add("due was " + want);
        }
    }

    private static long ask(Object asked, String name, Object[] arguments) {
        for (Method method : asked.getClass().getDeclaredMethods()) {
            if (method.getName().equals(name)) {
                return answer(asked, method, arguments);
            }
        }
        throw new IllegalStateException("there is no call " + name);
    }

    private static long answer(Object asked, Method method, Object[] arguments) {
        try {
            return ((Number) method.invoke(asked, arguments)).longValue();
        } catch (ReflectiveOperationException failed) {
            throw new IllegalStateException(method + " of " + Arrays.toString(arguments), failed);
        }
    }
}
