import java.lang.reflect.Method;
import java.util.Arrays;
import java.util.Comparator;
import java.util.List;
import java.util.function.Supplier;
import java.util.function.ToIntFunction;

/** What the tests of boundary cases share: the numbers, the objects to begin with, the comparing. */
abstract class Edges {
    static final int BAD = -1, STATE = -2, FULL = -3, NONE = -4, SPENT = -6, BAD_STAKE = -1000;
    static final int NULL = -11, INDEX = -12, CAST = -13, SIZE = -14;
    static final int LEAST = Integer.MIN_VALUE, MOST = Integer.MAX_VALUE;
    /** Three RAYS that are SQUARE to one another, and nine more. */
    static final int[][] TWELVE_RAYS = {{1, 0, 0}, {0, 2, 0}, {0, 0, -5}, {1, 1, 0}, {1, -1, 0}, {1, 2, 3},
        {5, -5, 5}, {-5, 5, 5}, {4, 3, -2}, {0, 1, 1}, {2, 0, 1}, {3, -1, 4}};
    static final int[] EIGHT_SETS = {7, 11, 13, 14, 3, 5, 6, 9};

    static final List<Supplier<LooksTogether>> ALL =
        List.of(LooksTogether::new, Edges::some, Edges::full, Edges::quarrelling, Edges::ring);

    private static Check check;
    private static String test;

    /** Runs every test of the class: each void method without arguments, so that none is forgotten. */
    static void run(Class<?> tests) throws ReflectiveOperationException {
        check = new Check(tests.getSimpleName());
        Method[] methods = tests.getDeclaredMethods();
        Arrays.sort(methods, Comparator.comparing(Method::getName));
        for (Method m : methods) {
            if (m.getReturnType() == void.class && m.getParameterCount() == 0 && !m.isSynthetic()) {
                test = m.getName();
                m.invoke(null);
            }
        }
        check.end();
    }

    static void due(String call, long got, long want) {
        check.due(test + ", " + call, got, want);
    }

    /** The call answers so, and leaves the object as another is that was made alike and not called. */
    static void refused(Supplier<LooksTogether> made, String name, ToIntFunction<LooksTogether> call, int want) {
        LooksTogether x = made.get();
        due(name, call.applyAsInt(x), want);
        alike(name + " changed something", x, made.get());
    }

    static void alike(String what, LooksTogether x, LooksTogether other) {
        String[] shown = Shown.of(x).split("\n");
        String[] wanted = Shown.of(other).split("\n");
        int at = Arrays.mismatch(shown, wanted);
        String first = at < 0 || at >= Math.min(shown.length, wanted.length) ? "" : ": '" + shown[at] + "', not '"
            + wanted[at] + "'";
        due(what + first, at, -1);
    }

    static LooksTogether with(int n, int... sets) {
        LooksTogether x = new LooksTogether();
        x.looks(n);
        for (int some : sets) {
            x.put(some);
        }
        return x;
    }

    static LooksTogether weigh(LooksTogether x, int c, int... weights) {
        for (int j = 0; j < weights.length; j++) {
            x.weight(c, j, weights[j]);
        }
        return x;
    }

    static LooksTogether bet(LooksTogether x, int c, int... stakes) {
        for (int j = 0; j < stakes.length; j++) {
            x.stake(c, j, stakes[j]);
        }
        return x;
    }

    static LooksTogether fill(LooksTogether x, int k, int lane, int... cells) {
        x.sheet(k, lane, cells.length);
        for (int i = 0; i < cells.length; i++) {
            x.lay(k, i, cells[i]);
        }
        return x;
    }

    /** Something of everything: three SETS that AGREE, with T 4; four RAYS; SHEETS of each lane and one of nothing. */
    static LooksTogether some() {
        LooksTogether x = with(4, 3, 6, 8);
        x.mix(1 | 1 << 3 | 1 << 5 | 1 << 14);
        bet(x, 0, 5, -7, 0, 100);
        bet(x, 1, -100, 1, 2, 3);
        bet(x, 2, 4, -4);
        x.parity(0, 1);
        x.parity(2, 0);
        for (int r = 0; r < 4; r++) {
            x.ray(TWELVE_RAYS[r][0], TWELVE_RAYS[r][1], TWELVE_RAYS[r][2]);
        }
        fill(x, 0, 0, 1, 2, -3);
        fill(x, 1, 1, 10, 20, 30, 40, 50, 60, 70, 80, 90);
        fill(x, 2, 2, 1000, 1001);
        x.parted();
        x.colours(2);
        return x;
    }

    /** Eight SETS, twelve RAYS, and all SHEETS. */
    static LooksTogether full() {
        LooksTogether x = with(4, EIGHT_SETS);
        x.mix(0x1248);
        bet(x, 0, 1, 2, 3);
        bet(x, 7, -1, -2, -3, -4);
        x.parity(0, 0);
        x.parity(7, 1);
        for (int[] r : TWELVE_RAYS) {
            x.ray(r[0], r[1], r[2]);
        }
        for (int k = 0; k < 4; k++) {
            fill(x, k, k % 3, k + 1, 9);
        }
        x.parted();
        x.colours(2);
        return x;
    }

    /** The table of some() spoiled by one WEIGHT, so that SETS 0 and 1 are unlike. */
    static LooksTogether quarrelling() {
        LooksTogether x = some();
        x.weight(1, 0, 9);
        return x;
    }

    /** Four SETS of two in a ring, AGREEING, that no HIDDEN has. */
    static LooksTogether ring() {
        LooksTogether x = with(4, 5, 9, 6, 10);
        weigh(x, 0, 1, 0, 0, 1);
        weigh(x, 1, 1, 0, 0, 1);
        weigh(x, 2, 1, 0, 0, 1);
        return weigh(x, 3, 0, 1, 1, 0);
    }
}
