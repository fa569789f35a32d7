import java.util.ArrayList;
import java.util.Arrays;
import java.util.List;
import java.util.TreeSet;

/**
 * The document said once more, as slowly and plainly as it goes, to compare the class with.
 * It shares no code and no way of holding things with the class.
 */
final class Model {
    private static final int BAD = -1, STATE = -2, FULL = -3, NONE = -4, SPENT = -6;

    private static final class OneSet {
        final List<Integer> looks = new ArrayList<>();
        int[] weights;
        int[] stakes;
        int parity = NONE;

        int jointBy(int h) {
            int number = 0;
            for (int j = 0; j < looks.size(); j++) {
                if (h / (1 << looks.get(j)) % 2 == 1) {
                    number += 1 << j;
                }
            }
            return number;
        }

        int bits() {
            int sum = 0;
            for (int look : looks) {
                sum += 1 << look;
            }
            return sum;
        }
    }

    private int n = 4;
    private final List<OneSet> sets = new ArrayList<>();
    private final List<int[]> rays = new ArrayList<>();
    private final Object[] sheets = new Object[4];

    private int tried;
    private List<Integer> row;

    int call(String name, int[] a) {
        switch (name) {
            case "looks": return looks(a[0]);
            case "put": return put(a[0]);
            case "drop": return drop();
            case "told": return told(a[0], a[1]);
            case "weight": return change(a[0], a[1], a[2], true);
            case "stake": return change(a[0], a[1], a[2], false);
            case "parity": return parity(a[0], a[1]);
            case "joint": return noSet(a[0]) || a[1] < 0 || a[1] >= hiddens() ? BAD : sets.get(a[0]).jointBy(a[1]);
            case "agrees": return sets.isEmpty() ? STATE : quarrel() == NONE ? 1 : 0;
            case "quarrel": return sets.isEmpty() ? STATE : quarrel();
            case "possible": return a[0] != 0 && a[0] != 1 ? BAD : sets.isEmpty() ? STATE : answer(a[0], possible());
            case "lost": return a[0] != 0 && a[0] != 1 ? BAD : sets.isEmpty() ? STATE : answer(a[0], lost());
            case "bound": return sets.isEmpty() ? STATE : bound()[0];
            case "best": return sets.isEmpty() ? STATE : bound()[1];
            case "worth": return sets.isEmpty() ? STATE : worth();
            case "beyond": return beyond();
            case "parted": return unsearchable() ? STATE : parted();
            case "part": return part(a[0]);
            case "mix": return mix(a[0]);
            case "fulfil": return fulfil();
            case "proof": return proof();
            case "ray": return ray(a[0], a[1], a[2]);
            case "cut": return cut();
            case "square": return square(a[0]);
            case "colours": return colours(a[0]);
            case "sheet": return sheet(a[0], a[1], a[2]);
            case "lay": return lay(a[0], a[1], a[2]);
            case "draw": return draw(a[0], a[1], a[2], a[3], a[4]);
            case "count": return count(a[0]);
            default: throw new IllegalArgumentException(name);
        }
    }

    private static int answer(int what, TreeSet<Integer> of) {
        return what == 0 ? of.size() : of.isEmpty() ? NONE : of.first();
    }

    private int hiddens() {
        return 1 << n;
    }

    private boolean noSet(int c) {
        return c < 0 || c >= sets.size();
    }

    private int looks(int v) {
        if (v < 1 || v > 6) {
            return BAD;
        }
        int was = n;
        n = v;
        sets.clear();
        return was;
    }

    private int put(int some) {
        OneSet made = new OneSet();
        for (int look = 0; look < n; look++) {
            if ((some & (1 << look)) != 0) {
                made.looks.add(look);
            }
        }
        if (made.bits() != some || made.looks.isEmpty() || made.looks.size() > 3) {
            return BAD;
        }
        for (OneSet s : sets) {
            if (s.looks.equals(made.looks)) {
                return STATE;
            }
        }
        if (sets.size() == 8) {
            return FULL;
        }
        made.weights = new int[1 << made.looks.size()];
        made.stakes = new int[1 << made.looks.size()];
        sets.add(made);
        return sets.size() - 1;
    }

    private int drop() {
        if (sets.isEmpty()) {
            return NONE;
        }
        sets.remove(sets.size() - 1);
        return sets.size();
    }

    private int told(int c, int what) {
        if (noSet(c) || what < 0 || what > 3) {
            return BAD;
        }
        OneSet s = sets.get(c);
        int[] all = {s.bits(), s.looks.size(), Arrays.stream(s.weights).sum(), s.parity};
        return all[what];
    }

    private int change(int c, int joint, int v, boolean weight) {
        int refused = weight ? BAD : -1000;
        if (noSet(c) || joint < 0 || joint >= sets.get(c).weights.length) {
            return refused;
        }
        if (!allowed(v, weight)) {
            return refused;
        }
        int[] of = weight ? sets.get(c).weights : sets.get(c).stakes;
        int was = of[joint];
        of[joint] = v;
        return was;
    }

    private static boolean allowed(int v, boolean weight) {
        return weight ? 0 <= v && v <= 1000 : -100 <= v && v <= 100;
    }

    private int parity(int c, int v) {
        if (noSet(c) || !(v == 0 || v == 1 || v == NONE)) {
            return BAD;
        }
        int was = sets.get(c).parity;
        sets.get(c).parity = v;
        return was;
    }

    /** Totals and shared sums apart, as the document says them. */
    private int quarrel() {
        for (int c = 0; c < sets.size(); c++) {
            for (int d = c + 1; d < sets.size(); d++) {
                OneSet a = sets.get(c);
                OneSet b = sets.get(d);
                if (Arrays.stream(a.weights).sum() != Arrays.stream(b.weights).sum()) {
                    return 8 * c + d;
                }
                int both = a.bits() & b.bits();
                for (int h = 0; h < hiddens(); h++) {
                    if (sumWith(a, both, h) != sumWith(b, both, h)) {
                        return 8 * c + d;
                    }
                }
            }
        }
        return NONE;
    }

    private static int sumWith(OneSet s, int both, int h) {
        int sum = 0;
        for (int joint = 0; joint < s.weights.length; joint++) {
            boolean same = true;
            for (int j = 0; j < s.looks.size(); j++) {
                int look = s.looks.get(j);
                if ((both >> look & 1) == 1 && (joint >> j & 1) != (h >> look & 1)) {
                    same = false;
                }
            }
            sum += same ? s.weights[joint] : 0;
        }
        return sum;
    }

    private TreeSet<Integer> possible() {
        TreeSet<Integer> found = new TreeSet<>();
        for (int h = 0; h < hiddens(); h++) {
            boolean all = true;
            for (OneSet s : sets) {
                all &= s.weights[s.jointBy(h)] > 0;
            }
            if (all) {
                found.add(h);
            }
        }
        return found;
    }

    private TreeSet<Integer> lost() {
        TreeSet<Integer> hidden = possible();
        TreeSet<Integer> found = new TreeSet<>();
        for (int c = 0; c < sets.size(); c++) {
            OneSet s = sets.get(c);
            for (int joint = 0; joint < s.weights.length; joint++) {
                final int j = joint;
                if (s.weights[j] > 0 && hidden.stream().noneMatch(h -> s.jointBy(h) == j)) {
                    found.add(8 * c + j);
                }
            }
        }
        return found;
    }

    private int[] bound() {
        int[] found = {Integer.MIN_VALUE, 0};
        for (int h = hiddens() - 1; h >= 0; h--) {
            int sum = 0;
            for (OneSet s : sets) {
                sum += s.stakes[s.jointBy(h)];
            }
            if (sum >= found[0]) {
                found[0] = sum;
                found[1] = h;
            }
        }
        return found;
    }

    private int worth() {
        int sum = 0;
        for (OneSet s : sets) {
            for (int j = 0; j < s.weights.length; j++) {
                sum += s.weights[j] * s.stakes[j];
            }
        }
        return sum;
    }

    private int beyond() {
        if (sets.isEmpty()) {
            return STATE;
        }
        return quarrel() == NONE && worth() > (long) bound()[0] * total() ? 1 : 0;
    }

    private int total() {
        return Arrays.stream(sets.get(0).weights).sum();
    }

    private boolean unsearchable() {
        return sets.isEmpty() || quarrel() != NONE || total() < 1 || total() > 24;
    }

    private int parted() {
        tried = 0;
        row = new ArrayList<>();
        int[][] had = new int[sets.size()][8];
        int found = goOn(had);
        if (found != 1) {
            row = null;
        }
        return found;
    }

    private int goOn(int[][] had) {
        if (row.size() == total()) {
            return 1;
        }
        for (int h = row.isEmpty() ? 0 : row.get(row.size() - 1); h < hiddens(); h++) {
            if (tried == 20000) {
                return SPENT;
            }
            tried++;
            boolean stands = true;
            for (int c = 0; c < sets.size(); c++) {
                int j = sets.get(c).jointBy(h);
                stands &= had[c][j] + 1 <= sets.get(c).weights[j];
            }
            if (stands) {
                have(had, h, 1);
                row.add(h);
                int found = goOn(had);
                if (found != 0) {
                    return found;
                }
                row.remove(row.size() - 1);
                have(had, h, -1);
            }
        }
        return 0;
    }

    private void have(int[][] had, int h, int by) {
        for (int c = 0; c < sets.size(); c++) {
            had[c][sets.get(c).jointBy(h)] += by;
        }
    }

    private int part(int i) {
        if (i < 0 && i != NONE) {
            return BAD;
        }
        if (unsearchable()) {
            return STATE;
        }
        int found = parted();
        if (i == NONE) {
            return tried;
        }
        if (found == SPENT) {
            return SPENT;
        }
        return found == 0 || i >= row.size() ? NONE : row.get(i);
    }

    private int mix(int some) {
        if (n > 4 || some < 0 || some > 65535) {
            return BAD;
        }
        for (int h = hiddens(); h < 16; h++) {
            if ((some >> h & 1) == 1) {
                return BAD;
            }
        }
        if (sets.isEmpty()) {
            return STATE;
        }
        int many = 0;
        for (OneSet s : sets) {
            s.weights = new int[s.weights.length];
            many = 0;
            for (int h = 0; h < 16; h++) {
                if ((some >> h & 1) == 1) {
                    s.weights[s.jointBy(h)]++;
                    many++;
                }
            }
        }
        return many;
    }

    private int fulfil() {
        if (sets.isEmpty()) {
            return STATE;
        }
        int many = 0;
        for (int h = 0; h < hiddens(); h++) {
            boolean all = true;
            for (OneSet s : sets) {
                all &= s.parity == NONE || Integer.bitCount(s.jointBy(h)) % 2 == s.parity;
            }
            many += all ? 1 : 0;
        }
        return many;
    }

    private int proof() {
        if (sets.isEmpty()) {
            return STATE;
        }
        for (int many = 1; many <= sets.size(); many++) {
            for (int some = 0; some < 1 << sets.size(); some++) {
                if (Integer.bitCount(some) == many && proves(some)) {
                    return some;
                }
            }
        }
        return NONE;
    }

    private boolean proves(int some) {
        int[] in = new int[n];
        int sum = 0;
        for (int c = 0; c < sets.size(); c++) {
            if ((some >> c & 1) == 1) {
                if (sets.get(c).parity == NONE) {
                    return false;
                }
                sum += sets.get(c).parity;
                for (int look : sets.get(c).looks) {
                    in[look]++;
                }
            }
        }
        return sum % 2 == 1 && Arrays.stream(in).allMatch(k -> k % 2 == 0);
    }

    /** Multiples are found by trying every p and q with p of one as much as q of the other. */
    private int ray(int x, int y, int z) {
        if (Math.max(Math.max(Math.abs((long) x), Math.abs((long) y)), Math.abs((long) z)) > 5) {
            return BAD;
        }
        if (x == 0 && y == 0 && z == 0) {
            return BAD;
        }
        for (int[] r : rays) {
            for (int p = 1; p <= 5; p++) {
                for (int q = -5; q <= 5; q++) {
                    if (p * x == q * r[0] && p * y == q * r[1] && p * z == q * r[2]) {
                        return STATE;
                    }
                }
            }
        }
        if (rays.size() == 12) {
            return FULL;
        }
        rays.add(new int[] {x, y, z});
        return rays.size() - 1;
    }

    private int cut() {
        if (rays.isEmpty()) {
            return NONE;
        }
        rays.remove(rays.size() - 1);
        return rays.size();
    }

    private boolean areSquare(int r, int s) {
        int[] a = rays.get(r);
        int[] b = rays.get(s);
        return a[0] * b[0] + a[1] * b[1] + a[2] * b[2] == 0;
    }

    private int square(int r) {
        if (r < 0 || r >= rays.size()) {
            return BAD;
        }
        int bits = 0;
        for (int s = 0; s < rays.size(); s++) {
            bits += areSquare(r, s) ? 1 << s : 0;
        }
        return bits;
    }

    private int colours(int what) {
        if (what < 0 || what > 4) {
            return BAD;
        }
        List<int[]> pairs = new ArrayList<>();
        List<int[]> threes = new ArrayList<>();
        for (int r = 0; r < rays.size(); r++) {
            for (int s = r + 1; s < rays.size(); s++) {
                if (areSquare(r, s)) {
                    pairs.add(new int[] {r, s});
                    for (int t = s + 1; t < rays.size(); t++) {
                        if (areSquare(r, t) && areSquare(s, t)) {
                            threes.add(new int[] {r, s, t});
                        }
                    }
                }
            }
        }
        int many = 0;
        int least = NONE;
        int most = NONE;
        for (int red = 0; red < 1 << rays.size(); red++) {
            boolean fine = true;
            for (int[] p : pairs) {
                fine &= redOf(red, p) < 2;
            }
            for (int[] t : threes) {
                fine &= redOf(red, t) == 1;
            }
            if (fine) {
                many++;
                least = least == NONE ? red : least;
                most = Math.max(most, Integer.bitCount(red));
            }
        }
        return new int[] {pairs.size(), threes.size(), many, least, most}[what];
    }

    private static int redOf(int red, int[] some) {
        int many = 0;
        for (int r : some) {
            many += red >> r & 1;
        }
        return many;
    }

    private int sheet(int k, int lane, int cells) {
        if (k < 0 || k > 3 || lane < 0 || lane > 2 || cells > 64) {
            return BAD;
        }
        if (cells < 0) {
            return -14;
        }
        sheets[k] = lane == 0 ? new byte[cells] : lane == 1 ? new short[cells] : new int[cells];
        return 1;
    }

    private static int laneOf(Object sheet) {
        return sheet instanceof byte[] ? 0 : sheet instanceof short[] ? 1 : 2;
    }

    private static int lengthOf(Object sheet) {
        return java.lang.reflect.Array.getLength(sheet);
    }

    private int lay(int k, int i, int v) {
        if (k < 0 || k > 3) {
            return BAD;
        }
        if (sheets[k] == null) {
            return -11;
        }
        if (i < 0 || i >= lengthOf(sheets[k])) {
            return -12;
        }
        if (sheets[k] instanceof byte[] bytes) {
            bytes[i] = (byte) v;
        } else if (sheets[k] instanceof short[] shorts) {
            shorts[i] = (short) v;
        } else if (sheets[k] instanceof int[] ints) {
            ints[i] = v;
        }
        return 1;
    }

    private int draw(int c, int sort, int k, int lane, int f) {
        if (noSet(c) || sort < 0 || sort > 1 || k < 0 || k > 3 || lane < 0 || lane > 2) {
            return BAD;
        }
        if (sheets[k] == null) {
            return -11;
        }
        if (laneOf(sheets[k]) != lane) {
            return -13;
        }
        OneSet s = sets.get(c);
        int[] read = new int[s.weights.length];
        for (int i = 0; i < read.length; i++) {
            long cell = (long) f + i;
            if (cell < 0 || cell >= lengthOf(sheets[k])) {
                return -12;
            }
            read[i] = java.lang.reflect.Array.getInt(sheets[k], (int) cell);
            if (!allowed(read[i], sort == 0)) {
                return -20 - i;
            }
        }
        if (sort == 0) {
            s.weights = read;
        } else {
            s.stakes = read;
        }
        return 1;
    }

    private int count(int what) {
        int above = 0;
        for (OneSet s : sets) {
            above += (int) Arrays.stream(s.weights).filter(w -> w > 0).count();
        }
        int cells = sheets[0] == null ? NONE : lengthOf(sheets[0]);
        int[] all = {n, sets.size(), rays.size(), above, cells};
        return what < 0 || what > 4 ? BAD : all[what];
    }
}
