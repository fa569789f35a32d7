import java.util.Arrays;

/** Looks that can not all be made at once; the promises are in the document, DOC.md. */
public final class LooksTogether {
    public static final int BAD = -1, STATE = -2, FULL = -3, NONE = -4, SPENT = -6;

    private static final int LOOKS_AT_FIRST = 4, LOOKS_MOST = 6, LOOKS_OF_A_SET = 3;
    private static final int SETS_MOST = 8, JOINTS_MOST = 8, HIDDEN_MOST = 64;
    private static final int WEIGHT_MOST = 1000, STAKE_MOST = 100, BAD_STAKE = -1000;
    private static final int PARTS_MOST = 24, TRIES_MOST = 20000;
    private static final int MIX_LOOKS_MOST = 4;
    private static final int RAYS_MOST = 12, RAY_NUMBER_MOST = 5, THREES_MOST = 220;
    private static final int SHEETS = 4, LANES = 3, CELLS_MOST = 64;
    private static final int LANE_BYTES = 0, LANE_SHORTS = 1;
    private static final int SORT_WEIGHTS = 0, SORT_STAKES = 1;
    private static final int FAULT_NULL = -11, FAULT_INDEX = -12, FAULT_CAST = -13, FAULT_SIZE = -14;
    private static final int FIRST_CELL_WRONG = -20;

    private final Table table;
    private final Parting parting;
    private final Rays rays;
    private final Sheet[] sheets;

    public LooksTogether() {
        table = new Table();
        parting = new Parting();
        rays = new Rays();
        sheets = new Sheet[SHEETS];
        for (int k = 0; k < SHEETS; k++) {
            sheets[k] = new Sheet();
        }
    }

    // ---- looks, sets, joints

    public int looks(int n) {
        if (n < 1 || n > LOOKS_MOST) {
            return BAD;
        }
        int was = table.lookCount;
        table.begin(n);
        return was;
    }

    public int put(int some) {
        if (some < 1 || some >= table.hiddenCount() || Integer.bitCount(some) > LOOKS_OF_A_SET) {
            return BAD;
        }
        if (table.hasSetOf(some)) {
            return STATE;
        }
        return table.size >= SETS_MOST ? FULL : table.add(some);
    }

    public int drop() {
        return table.size == 0 ? NONE : table.removeLatest();
    }

    public int told(int c, int what) {
        if (!table.hasSet(c)) {
            return BAD;
        }
        switch (what) {
            case 0: return table.looksOf[c];
            case 1: return Integer.bitCount(table.looksOf[c]);
            case 2: return table.weightSum(c);
            case 3: return table.parities[c];
            default: return BAD;
        }
    }

    public int weight(int c, int joint, int v) {
        if (!table.hasJoint(c, joint) || !isWeight(v)) {
            return BAD;
        }
        int place = JOINTS_MOST * c + joint;
        int was = table.weights[place];
        table.setWeight(place, v);
        return was;
    }

    public int stake(int c, int joint, int v) {
        if (!table.hasJoint(c, joint) || !isStake(v)) {
            return BAD_STAKE;
        }
        int place = JOINTS_MOST * c + joint;
        int was = table.stakes[place];
        table.stakes[place] = v;
        return was;
    }

    public int parity(int c, int v) {
        if (!table.hasSet(c) || (v != 0 && v != 1 && v != NONE)) {
            return BAD;
        }
        int was = table.parities[c];
        table.parities[c] = v;
        return was;
    }

    public int joint(int c, int h) {
        if (!table.hasSet(c) || h < 0 || h >= table.hiddenCount()) {
            return BAD;
        }
        return table.placeBy(c, h) - JOINTS_MOST * c;
    }

    private static boolean isWeight(int v) {
        return v >= 0 && v <= WEIGHT_MOST;
    }

    private static boolean isStake(int v) {
        return v >= -STAKE_MOST && v <= STAKE_MOST;
    }

    // ---- the table

    public int agrees() {
        if (table.size == 0) {
            return STATE;
        }
        return table.firstQuarrel() == NONE ? 1 : 0;
    }

    public int quarrel() {
        return table.size == 0 ? STATE : table.firstQuarrel();
    }

    public int possible(int what) {
        if (what != 0 && what != 1) {
            return BAD;
        }
        if (table.size == 0) {
            return STATE;
        }
        int many = 0;
        int least = NONE;
        for (int h = table.hiddenCount() - 1; h >= 0; h--) {
            if (table.isPossible(h)) {
                many++;
                least = h;
            }
        }
        return what == 0 ? many : least;
    }

    public int lost(int what) {
        if (what != 0 && what != 1) {
            return BAD;
        }
        if (table.size == 0) {
            return STATE;
        }
        table.findMet();
        int many = 0;
        int first = NONE;
        for (int place = JOINTS_MOST * table.size - 1; place >= 0; place--) {
            if (table.weights[place] > 0 && !table.met[place]) {
                many++;
                first = place;
            }
        }
        return what == 0 ? many : first;
    }

    public int bound() {
        return table.size == 0 ? STATE : table.stakeSum(table.bestHidden());
    }

    public int best() {
        return table.size == 0 ? STATE : table.bestHidden();
    }

    public int worth() {
        return table.size == 0 ? STATE : table.stakesTimesWeights();
    }

    public int beyond() {
        if (table.size == 0) {
            return STATE;
        }
        if (table.firstQuarrel() != NONE) {
            return 0;
        }
        int farthest = table.stakeSum(table.bestHidden()) * table.weightSum(0);
        return table.stakesTimesWeights() > farthest ? 1 : 0;
    }

    public int parted() {
        if (!canBeSearched()) {
            return STATE;
        }
        parting.search(table);
        return parting.outcome;
    }

    public int part(int i) {
        if (i < 0 && i != NONE) {
            return BAD;
        }
        if (!canBeSearched()) {
            return STATE;
        }
        parting.search(table);
        if (i == NONE) {
            return parting.tried;
        }
        if (parting.outcome == SPENT) {
            return SPENT;
        }
        return parting.outcome == 1 && i < parting.total ? parting.row[i] : NONE;
    }

    private boolean canBeSearched() {
        if (table.size == 0 || table.firstQuarrel() != NONE) {
            return false;
        }
        int total = table.weightSum(0);
        return total >= 1 && total <= PARTS_MOST;
    }

    public int mix(int some) {
        if (table.lookCount > MIX_LOOKS_MOST) {
            return BAD;
        }
        int hiddenBits = (1 << table.hiddenCount()) - 1;
        if (some < 0 || some > hiddenBits) {
            return BAD;
        }
        if (table.size == 0) {
            return STATE;
        }
        table.weighBy(some);
        return Integer.bitCount(some);
    }

    // ---- parities, rays

    public int fulfil() {
        if (table.size == 0) {
            return STATE;
        }
        int many = 0;
        for (int h = 0; h < table.hiddenCount(); h++) {
            if (table.isFulfilledBy(h)) {
                many++;
            }
        }
        return many;
    }

    public int proof() {
        if (table.size == 0) {
            return STATE;
        }
        int least = NONE;
        int fewest = SETS_MOST + 1;
        for (int some = 1; some < 1 << table.size; some++) {
            // Ascending numbers: of as many SETS the first one met has the least sum.
            if (Integer.bitCount(some) < fewest && table.isProof(some)) {
                least = some;
                fewest = Integer.bitCount(some);
            }
        }
        return least;
    }

    public int ray(int x, int y, int z) {
        if (!isRayNumber(x) || !isRayNumber(y) || !isRayNumber(z) || (x == 0 && y == 0 && z == 0)) {
            return BAD;
        }
        if (rays.hasMultipleOf(x, y, z)) {
            return STATE;
        }
        return rays.size >= RAYS_MOST ? FULL : rays.add(x, y, z);
    }

    public int cut() {
        return rays.size == 0 ? NONE : rays.removeLatest();
    }

    public int square(int r) {
        return r < 0 || r >= rays.size ? BAD : rays.squares[r];
    }

    public int colours(int what) {
        if (what < 0 || what > 4) {
            return BAD;
        }
        rays.judge();
        switch (what) {
            case 0: return rays.pairCount;
            case 1: return rays.threeCount;
            case 2: return rays.colourCount;
            case 3: return rays.leastColours;
            default: return rays.mostRed;
        }
    }

    private static boolean isRayNumber(int v) {
        return v >= -RAY_NUMBER_MOST && v <= RAY_NUMBER_MOST;
    }

    // ---- sheets

    public int sheet(int k, int lane, int n) {
        if (!isSheet(k) || !isLane(lane) || n > CELLS_MOST) {
            return BAD;
        }
        if (n < 0) {
            return FAULT_SIZE;
        }
        sheets[k].renew(lane, n);
        return 1;
    }

    public int lay(int k, int i, int v) {
        if (!isSheet(k)) {
            return BAD;
        }
        if (sheets[k].isNothing()) {
            return FAULT_NULL;
        }
        if (!sheets[k].hasCell(i)) {
            return FAULT_INDEX;
        }
        sheets[k].write(i, v);
        return 1;
    }

    public int draw(int c, int sort, int k, int lane, int f) {
        if (!table.hasSet(c) || (sort != SORT_WEIGHTS && sort != SORT_STAKES) || !isSheet(k) || !isLane(lane)) {
            return BAD;
        }
        if (sheets[k].isNothing()) {
            return FAULT_NULL;
        }
        if (sheets[k].lane != lane) {
            return FAULT_CAST;
        }
        int joints = table.jointCount(c);
        int fault = firstFault(sheets[k], sort, f, joints);
        if (fault != 0) {
            return fault;
        }
        for (int j = 0; j < joints; j++) {
            int v = sheets[k].cells[f + j];
            if (sort == SORT_WEIGHTS) {
                table.setWeight(JOINTS_MOST * c + j, v);
            } else {
                table.stakes[JOINTS_MOST * c + j] = v;
            }
        }
        return 1;
    }

    /** The answer to the first CELL that can't be drawn, 0 if all can: found ahead of any change. */
    private static int firstFault(Sheet from, int sort, int f, int joints) {
        for (int j = 0; j < joints; j++) {
            if (!from.hasCell(f + j)) {
                return FAULT_INDEX;
            }
            int v = from.cells[f + j];
            if (sort == SORT_WEIGHTS ? !isWeight(v) : !isStake(v)) {
                return FIRST_CELL_WRONG - j;
            }
        }
        return 0;
    }

    public int count(int what) {
        switch (what) {
            case 0: return table.lookCount;
            case 1: return table.size;
            case 2: return rays.size;
            case 3: return table.weightsAboveZero();
            case 4: return sheets[0].isNothing() ? NONE : sheets[0].size;
            default: return BAD;
        }
    }

    private static boolean isSheet(int k) {
        return k >= 0 && k < SHEETS;
    }

    private static boolean isLane(int lane) {
        return lane >= 0 && lane < LANES;
    }

    /** The SETS with all that is told of them. The PLACE of a JOINT in the rows is 8 c and its number. */
    private static final class Table {
        private int lookCount = LOOKS_AT_FIRST;
        private int size = 0;
        /** Goes up whenever a search of the WEIGHTS could end otherwise. */
        private int changes = 0;
        private final int[] looksOf = new int[SETS_MOST];
        private final int[] parities = new int[SETS_MOST];
        private final int[] weights = new int[SETS_MOST * JOINTS_MOST];
        private final int[] stakes = new int[SETS_MOST * JOINTS_MOST];
        /** For each PLACE the ANSWERS of its JOINT as bits of HIDDEN. */
        private final int[] answers = new int[SETS_MOST * JOINTS_MOST];
        /** For each SET and each HIDDEN the PLACE of the JOINT, kept because the search asks it often. */
        private final int[] places = new int[SETS_MOST * HIDDEN_MOST];
        private final int[] sums = new int[HIDDEN_MOST];
        private final boolean[] met = new boolean[SETS_MOST * JOINTS_MOST];

        void begin(int n) {
            lookCount = n;
            size = 0;
            changes++;
        }

        int hiddenCount() {
            return 1 << lookCount;
        }

        boolean hasSet(int c) {
            return c >= 0 && c < size;
        }

        boolean hasJoint(int c, int j) {
            return hasSet(c) && j >= 0 && j < jointCount(c);
        }

        int jointCount(int c) {
            return 1 << Integer.bitCount(looksOf[c]);
        }

        boolean hasSetOf(int some) {
            for (int c = 0; c < size; c++) {
                if (looksOf[c] == some) {
                    return true;
                }
            }
            return false;
        }

        int add(int some) {
            int c = size;
            looksOf[c] = some;
            parities[c] = NONE;
            for (int j = 0; j < JOINTS_MOST; j++) {
                weights[JOINTS_MOST * c + j] = 0;
                stakes[JOINTS_MOST * c + j] = 0;
            }
            for (int h = 0; h < hiddenCount(); h++) {
                int place = JOINTS_MOST * c + numberOf(some, h);
                places[HIDDEN_MOST * c + h] = place;
                answers[place] = h & some;
            }
            size++;
            changes++;
            return c;
        }

        private static int numberOf(int some, int h) {
            int number = 0;
            int bit = 0;
            for (int look = 0; look < LOOKS_MOST; look++) {
                if ((some >> look & 1) == 1) {
                    number |= (h >> look & 1) << bit;
                    bit++;
                }
            }
            return number;
        }

        int removeLatest() {
            size--;
            changes++;
            return size;
        }

        void setWeight(int place, int v) {
            weights[place] = v;
            changes++;
        }

        void weighBy(int some) {
            Arrays.fill(weights, 0);
            for (int h = 0; h < hiddenCount(); h++) {
                if ((some >> h & 1) == 1) {
                    for (int c = 0; c < size; c++) {
                        weights[placeBy(c, h)]++;
                    }
                }
            }
            changes++;
        }

        int placeBy(int c, int h) {
            return places[HIDDEN_MOST * c + h];
        }

        int weightSum(int c) {
            int sum = 0;
            for (int j = 0; j < jointCount(c); j++) {
                sum += weights[JOINTS_MOST * c + j];
            }
            return sum;
        }

        int weightsAboveZero() {
            int many = 0;
            for (int c = 0; c < size; c++) {
                for (int j = 0; j < jointCount(c); j++) {
                    if (weights[JOINTS_MOST * c + j] > 0) {
                        many++;
                    }
                }
            }
            return many;
        }

        int firstQuarrel() {
            for (int c = 0; c < size; c++) {
                for (int d = c + 1; d < size; d++) {
                    if (areUnlike(c, d)) {
                        return SETS_MOST * c + d;
                    }
                }
            }
            return NONE;
        }

        /** Where no LOOK is in both, the one sum is that of all WEIGHTS; else the parts settle it too. */
        private boolean areUnlike(int c, int d) {
            int both = looksOf[c] & looksOf[d];
            Arrays.fill(sums, 0);
            addToSums(c, both, 1);
            addToSums(d, both, -1);
            for (int sum : sums) {
                if (sum != 0) {
                    return true;
                }
            }
            return false;
        }

        private void addToSums(int c, int both, int sign) {
            for (int j = 0; j < jointCount(c); j++) {
                int place = JOINTS_MOST * c + j;
                sums[answers[place] & both] += sign * weights[place];
            }
        }

        boolean isPossible(int h) {
            for (int c = 0; c < size; c++) {
                if (weights[placeBy(c, h)] == 0) {
                    return false;
                }
            }
            return true;
        }

        /** Marks the PLACES of all JOINTS that a POSSIBLE HIDDEN has. */
        void findMet() {
            for (int place = 0; place < JOINTS_MOST * size; place++) {
                met[place] = false;
            }
            for (int h = 0; h < hiddenCount(); h++) {
                if (isPossible(h)) {
                    for (int c = 0; c < size; c++) {
                        met[placeBy(c, h)] = true;
                    }
                }
            }
        }

        int stakeSum(int h) {
            int sum = 0;
            for (int c = 0; c < size; c++) {
                sum += stakes[placeBy(c, h)];
            }
            return sum;
        }

        int bestHidden() {
            int best = 0;
            int most = stakeSum(0);
            for (int h = 1; h < hiddenCount(); h++) {
                int sum = stakeSum(h);
                if (sum > most) {
                    best = h;
                    most = sum;
                }
            }
            return best;
        }

        int stakesTimesWeights() {
            int sum = 0;
            for (int place = 0; place < JOINTS_MOST * size; place++) {
                sum += stakes[place] * weights[place];
            }
            return sum;
        }

        boolean isFulfilledBy(int h) {
            for (int c = 0; c < size; c++) {
                if (parities[c] != NONE && (Integer.bitCount(h & looksOf[c]) & 1) != parities[c]) {
                    return false;
                }
            }
            return true;
        }

        boolean isProof(int some) {
            int oddLooks = 0;
            int sum = 0;
            for (int c = 0; c < size; c++) {
                if ((some >> c & 1) == 1) {
                    if (parities[c] == NONE) {
                        return false;
                    }
                    oddLooks ^= looksOf[c];
                    sum += parities[c];
                }
            }
            return oddLooks == 0 && (sum & 1) == 1;
        }
    }

    /** The search for the first row of HIDDEN that a TABLE is PARTED into, kept until the TABLE changes. */
    private static final class Parting {
        private final int[] row = new int[PARTS_MOST];
        /** How often each JOINT may still be had. */
        private final int[] left = new int[SETS_MOST * JOINTS_MOST];
        private int total = 0;
        private int tried = 0;
        private int outcome = 0;
        private int changesSeen = -1;

        /** The TABLE has to AGREE, and its T to be 1 to 24. */
        void search(Table table) {
            if (changesSeen == table.changes) {
                return;
            }
            changesSeen = table.changes;
            total = Math.min(table.weightSum(0), PARTS_MOST);
            tried = 0;
            System.arraycopy(table.weights, 0, left, 0, left.length);
            outcome = findRow(table);
        }

        private int findRow(Table table) {
            int at = 0;
            int h = 0;
            // A step tries one HIDDEN or goes back over one that stood, so there are at most twice as many.
            for (int step = 0; step <= 2 * TRIES_MOST && at < total; step++) {
                if (h >= table.hiddenCount()) {
                    if (at == 0) {
                        return 0;
                    }
                    at--;
                    change(table, row[at], 1);
                    h = row[at] + 1;
                } else if (tried == TRIES_MOST) {
                    return SPENT;
                } else {
                    tried++;
                    if (fits(table, h)) {
                        change(table, h, -1);
                        row[at] = h;
                        at++;
                    } else {
                        h++;
                    }
                }
            }
            return at == total ? 1 : SPENT;
        }

        private boolean fits(Table table, int h) {
            for (int c = 0; c < table.size; c++) {
                if (left[table.placeBy(c, h)] == 0) {
                    return false;
                }
            }
            return true;
        }

        private void change(Table table, int h, int by) {
            for (int c = 0; c < table.size; c++) {
                left[table.placeBy(c, h)] += by;
            }
        }
    }

    /** The RAYS, and what there is to say of their COLOURS, kept until the RAYS change. */
    private static final class Rays {
        private int size = 0;
        private final int[] xs = new int[RAYS_MOST];
        private final int[] ys = new int[RAYS_MOST];
        private final int[] zs = new int[RAYS_MOST];
        private final int[] squares = new int[RAYS_MOST];
        private final int[] threes = new int[THREES_MOST];
        private boolean judged = false;
        private int pairCount = 0;
        private int threeCount = 0;
        private int colourCount = 0;
        private int leastColours = NONE;
        private int mostRed = NONE;

        boolean hasMultipleOf(int x, int y, int z) {
            for (int r = 0; r < size; r++) {
                if (xs[r] * y == ys[r] * x && xs[r] * z == zs[r] * x && ys[r] * z == zs[r] * y) {
                    return true;
                }
            }
            return false;
        }

        int add(int x, int y, int z) {
            int latest = size;
            xs[latest] = x;
            ys[latest] = y;
            zs[latest] = z;
            squares[latest] = 0;
            for (int r = 0; r < latest; r++) {
                if (xs[r] * x + ys[r] * y + zs[r] * z == 0) {
                    squares[latest] |= 1 << r;
                    squares[r] |= 1 << latest;
                }
            }
            size++;
            judged = false;
            return latest;
        }

        int removeLatest() {
            size--;
            for (int r = 0; r < size; r++) {
                squares[r] &= ~(1 << size);
            }
            judged = false;
            return size;
        }

        void judge() {
            if (judged) {
                return;
            }
            judged = true;
            findPairsAndThrees();
            colourCount = 0;
            leastColours = NONE;
            mostRed = NONE;
            for (int red = 0; red < 1 << size; red++) {
                if (areColours(red)) {
                    leastColours = colourCount == 0 ? red : leastColours;
                    mostRed = Math.max(mostRed, Integer.bitCount(red));
                    colourCount++;
                }
            }
        }

        private void findPairsAndThrees() {
            pairCount = 0;
            threeCount = 0;
            for (int r = 0; r < size; r++) {
                for (int s = r + 1; s < size; s++) {
                    if ((squares[r] >> s & 1) == 1) {
                        pairCount++;
                        findThreesOf(r, s);
                    }
                }
            }
        }

        private void findThreesOf(int r, int s) {
            int both = squares[r] & squares[s];
            for (int t = s + 1; t < size; t++) {
                if ((both >> t & 1) == 1 && threeCount < THREES_MOST) {
                    threes[threeCount] = 1 << r | 1 << s | 1 << t;
                    threeCount++;
                }
            }
        }

        private boolean areColours(int red) {
            // The threes first: they refuse most numbers, and soonest.
            for (int i = 0; i < threeCount; i++) {
                if (Integer.bitCount(red & threes[i]) != 1) {
                    return false;
                }
            }
            for (int r = 0; r < size; r++) {
                if ((red >> r & 1) == 1 && (squares[r] & red) != 0) {
                    return false;
                }
            }
            return true;
        }
    }

    /** A row of CELLS of a lane, or nothing; a CELL holds what the lane's lowest bits leave. */
    private static final class Sheet {
        private static final int NO_LANE = -1;
        private final int[] cells = new int[CELLS_MOST];
        private int lane = NO_LANE;
        private int size = 0;

        void renew(int newLane, int n) {
            Arrays.fill(cells, 0);
            lane = newLane;
            size = n;
        }

        boolean isNothing() {
            return lane == NO_LANE;
        }

        boolean hasCell(int i) {
            return i >= 0 && i < size;
        }

        void write(int i, int v) {
            switch (lane) {
                case LANE_BYTES: cells[i] = (byte) v; break;
                case LANE_SHORTS: cells[i] = (short) v; break;
                default: cells[i] = v;
            }
        }
    }
}
