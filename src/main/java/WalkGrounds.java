/**
 * Walks that come to no place twice, on four grounds, and ways over small boards with holes.
 * The words in capitals are those of the document that this class keeps to.
 */
public final class WalkGrounds {
    public static final int NONE = -1, BAD = -2, NO = -3, FULL = -4, SPENT = -5;

    private static final int SQUARES = 0, THIRDS = 1, SIXES = 2, CUBES = 3;
    private static final int GROUND_COUNT = 4;
    private static final int MOST_WALKS = 16;
    private static final int MOST_STEPS = 60;
    private static final int MOST_COUNTED_STEPS = 20;
    private static final int MOST_COUNTED_WALKS = 600000;
    private static final int MOST_FORM_STEPS = 7;
    private static final int MOST_FORM_WALKS = 3000;
    private static final int MOST_REACH_STEPS = 6;
    private static final int MOST_REACH_ROWS = 10000;
    private static final int LEAST_SIDE = 2, MOST_SIDE = 6;
    private static final int BAD_PLACE = -1000;
    private static final int DIGEST_BEGIN = 107;

    private final Row[] made = new Row[MOST_WALKS];
    private int madeCount = 0;
    // Wide enough for two whole WALKS: a join is looked at for a PLACE twice before it is FULL.
    private final Row trial = new Row(2 * MOST_STEPS);
    private final int[] ownForm = new int[MOST_STEPS];
    private final int[] otherForm = new int[MOST_STEPS];
    private final Tally[] tallies = new Tally[GROUND_COUNT];
    private final Plane plane = new Plane();

    public WalkGrounds() {
    }

    // ---- walks

    public int walk(int ground) {
        if (!Ground.isGround(ground)) {
            return BAD;
        }
        if (madeCount < 0 || madeCount >= made.length) {
            return FULL;
        }
        Row fresh = new Row(MOST_STEPS);
        fresh.begin(ground);
        made[madeCount] = fresh;
        madeCount++;
        return madeCount - 1;
    }

    public int step(int walk, int d) {
        Row row = rowOf(walk);
        if (row == null || !Ground.isDirection(row.ground, d)) {
            return BAD;
        }
        if (!row.leads(d)) {
            return NO;
        }
        if (row.size >= MOST_STEPS) {
            return FULL;
        }
        row.lay(d);
        return row.size;
    }

    public int back(int walk, int n) {
        Row row = rowOf(walk);
        if (row == null || n < 0 || n > row.size) {
            return BAD;
        }
        row.drop(n);
        return row.size;
    }

    public int pivot(int walk, int k, int t) {
        Row row = rowOf(walk);
        if (row == null || k < 0 || k > row.size || !Ground.isTurn(row.ground, t)) {
            return BAD;
        }
        trial.begin(row.ground);
        for (int i = 0; i < row.size; i++) {
            int d = row.direction(i);
            if (!trial.lay(i < k ? d : Ground.turned(row.ground, t, d))) {
                return NO;
            }
        }
        row.become(trial);
        return 1;
    }

    public int join(int walk, int other) {
        Row row = rowOf(walk);
        Row behind = rowOf(other);
        if (row == null || behind == null) {
            return BAD;
        }
        if (row.ground != behind.ground) {
            return NO;
        }
        trial.become(row);
        for (int i = 0; i < behind.size; i++) {
            if (!trial.lay(behind.direction(i))) {
                return NO;
            }
        }
        if (trial.size > MOST_STEPS) {
            return FULL;
        }
        row.become(trial);
        return row.size;
    }

    public int turnBack(int walk) {
        Row row = rowOf(walk);
        if (row == null) {
            return BAD;
        }
        if (row.ground == SIXES && !Ground.isEven(row.endX(), row.endY())) {
            return NO;
        }
        trial.begin(row.ground);
        for (int i = row.size - 1; i >= 0; i--) {
            if (!trial.lay(Ground.opposite(row.ground, row.direction(i)))) {
                return NO;
            }
        }
        row.become(trial);
        return row.size;
    }

    public int stepAt(int walk, int i) {
        Row row = rowOf(walk);
        if (row == null || i < 0) {
            return BAD;
        }
        return i < row.size ? row.direction(i) : NONE;
    }

    public int place(int walk, int i, int what) {
        Row row = rowOf(walk);
        if (row == null || i < 0 || i > row.size) {
            return BAD_PLACE;
        }
        switch (what) {
            case 0:
                return cell(row.xs, i);
            case 1:
                return cell(row.ys, i);
            case 2:
                return cell(row.zs, i);
            default:
                return BAD_PLACE;
        }
    }

    public int about(int walk, int what) {
        Row row = rowOf(walk);
        if (row == null) {
            return BAD;
        }
        switch (what) {
            case 0:
                return row.ground;
            case 1:
                return row.size;
            case 2:
                return Ground.square(row.ground, row.endX(), row.endY(), row.endZ());
            case 3:
                return row.isRing() ? 1 : 0;
            case 4:
                return row.isRing() && row.ground != CUBES ? row.twiceArea() : NONE;
            case 5:
                return row.bends();
            case 6:
                return row.isBridge() ? 1 : 0;
            case 7:
                return row.leadsOn();
            default:
                return BAD;
        }
    }

    public int form(int walk, int i) {
        Row row = rowOf(walk);
        if (row == null || i < 0) {
            return BAD;
        }
        if (i >= row.size) {
            return NONE;
        }
        Likeness.writeForm(row, ownForm);
        return cell(ownForm, i);
    }

    public int alike(int walk, int other) {
        Row row = rowOf(walk);
        Row second = rowOf(other);
        if (row == null || second == null) {
            return BAD;
        }
        if (row.ground != second.ground) {
            return NO;
        }
        if (row.size != second.size) {
            return 0;
        }
        Likeness.writeForm(row, ownForm);
        Likeness.writeForm(second, otherForm);
        for (int i = 0; i < row.size; i++) {
            if (cell(ownForm, i) != cell(otherForm, i)) {
                return 0;
            }
        }
        return 1;
    }

    // ---- counted

    public int walks(int ground, int n) {
        Tally tally = tallyFor(ground, n, 0);
        if (tally == null) {
            return BAD;
        }
        return tally.holds(n) ? cell(tally.walkCounts, n) : SPENT;
    }

    public long squares(int ground, int n) {
        Tally tally = tallyFor(ground, n, 0);
        if (tally == null) {
            return BAD;
        }
        return tally.holds(n) ? cell(tally.squareSums, n) : SPENT;
    }

    public int rings(int ground, int n) {
        Tally tally = tallyFor(ground, n, 3);
        if (tally == null) {
            return BAD;
        }
        return tally.holds(n - 1) ? cell(tally.ringCounts, n - 1) : SPENT;
    }

    public int bridges(int ground, int n) {
        Tally tally = tallyFor(ground, n, 1);
        if (tally == null) {
            return BAD;
        }
        return tally.holds(n) ? cell(tally.bridgeCounts, n) : SPENT;
    }

    public int forms(int ground, int n) {
        Tally tally = tallyFor(ground, n, 0);
        if (tally == null || n > MOST_FORM_STEPS) {
            return BAD;
        }
        if (!tally.holds(n) || cell(tally.walkCounts, n) > MOST_FORM_WALKS) {
            return SPENT;
        }
        if (cell(tally.formCounts, n) == NONE) {
            trial.begin(ground);
            put(tally.formCounts, n, Likeness.countForms(trial, n, 0));
        }
        return cell(tally.formCounts, n);
    }

    public int reach(int ground, int n) {
        Tally tally = tallyFor(ground, n, 1);
        if (tally == null || ground == SIXES || n > MOST_REACH_STEPS) {
            return BAD;
        }
        int rowCount = 1;
        for (int i = 0; i < n; i++) {
            rowCount *= Ground.directions(ground);
        }
        if (rowCount > MOST_REACH_ROWS) {
            return SPENT;
        }
        if (cell(tally.reachCounts, n) == NONE) {
            put(tally.reachCounts, n, new Turnings(ground, n, rowCount).countReached(trial));
        }
        return cell(tally.reachCounts, n);
    }

    // ---- boards

    public int board(int w, int h) {
        if (w < LEAST_SIDE || w > MOST_SIDE || h < LEAST_SIDE || h > MOST_SIDE) {
            return BAD;
        }
        plane.lay(w, h);
        return 1;
    }

    public int hole(int x, int y, boolean hole) {
        if (x < 0 || x >= plane.w || y < 0 || y >= plane.h) {
            return BAD;
        }
        if (plane.isHole(x, y) == hole || plane.isCorner(x, y)) {
            return NO;
        }
        plane.turnOver(x, y);
        return 1;
    }

    public int ways(boolean full) {
        if (!plane.holds()) {
            return SPENT;
        }
        return full ? plane.fullWays : plane.allWays;
    }

    public int waysOf(int n) {
        if (n < 0) {
            return BAD;
        }
        return plane.holds() ? cell(plane.waysBySteps, n) : SPENT;
    }

    public int shortest() {
        return plane.shortestSteps();
    }

    public int count(int what) {
        switch (what) {
            case 0:
                return madeCount;
            case 1:
                return Long.bitCount(plane.open);
            case 2:
                return plane.w;
            case 3:
                return plane.h;
            default:
                return BAD;
        }
    }

    public long digest() {
        long h = DIGEST_BEGIN;
        for (int what = 0; what < 4; what++) {
            h = 31 * h + count(what);
        }
        for (int number = 0; number < madeCount; number++) {
            Row row = rowOf(number);
            if (row != null) {
                h = row.digestOnto(h);
            }
        }
        return plane.digestOnto(h);
    }

    // ---- within

    /** The WALK of that number, or null where there is none. */
    private Row rowOf(int walk) {
        return walk >= 0 && walk < madeCount && walk < made.length ? made[walk] : null;
    }

    /**
     * The GROUND's tally, or null where the GROUND or n is not as told. It is made only when the GROUND
     * is first counted, since most objects count few of them.
     */
    private Tally tallyFor(int ground, int n, int least) {
        if (ground < 0 || ground >= tallies.length || n < least || n > MOST_COUNTED_STEPS) {
            return null;
        }
        Tally tally = tallies[ground];
        if (tally == null) {
            tally = new Tally(ground);
            tallies[ground] = tally;
        }
        return tally;
    }

    private static int cell(int[] row, int i) {
        return row != null && i >= 0 && i < row.length ? row[i] : 0;
    }

    private static long cell(long[] row, int i) {
        return row != null && i >= 0 && i < row.length ? row[i] : 0;
    }

    private static void put(int[] row, int i, int value) {
        if (row != null && i >= 0 && i < row.length) {
            row[i] = value;
        }
    }

    /** What the four GROUNDS tell of their DIRECTIONS, TURNS and PLACES. */
    private static final class Ground {
        // Six cells a GROUND; the y of SIXES' DIRECTION 2 hangs on the PLACE and stands in shiftY.
        private static final int[] SHIFT_X = {
            1, 0, -1, 0, 0, 0,
            1, 0, -1, -1, 0, 1,
            1, -1, 0, 0, 0, 0,
            1, 0, 0, -1, 0, 0,
        };
        private static final int[] SHIFT_Y = {
            0, 1, 0, -1, 0, 0,
            0, 1, 1, 0, -1, -1,
            0, 0, 0, 0, 0, 0,
            0, 1, 0, 0, -1, 0,
        };
        // The orders of axes: 012, 021, 102, 120, 201, 210.
        private static final int[] AXES = {
            0, 1, 2, 0, 2, 1, 1, 0, 2, 1, 2, 0, 2, 0, 1, 2, 1, 0,
        };

        static boolean isGround(int ground) {
            return ground >= 0 && ground < GROUND_COUNT;
        }

        static int directions(int ground) {
            return ground == SQUARES ? 4 : ground == SIXES ? 3 : 6;
        }

        static boolean isDirection(int ground, int d) {
            return d >= 0 && d < directions(ground);
        }

        static int turns(int ground) {
            switch (ground) {
                case SQUARES:
                    return 8;
                case THIRDS:
                    return 12;
                case CUBES:
                    return 48;
                default:
                    return 0;
            }
        }

        static boolean isTurn(int ground, int t) {
            return t >= 0 && t < turns(ground);
        }

        static int shiftX(int ground, int d) {
            int at = 6 * ground + d;
            return at >= 0 && at < SHIFT_X.length ? SHIFT_X[at] : 0;
        }

        static int shiftY(int ground, int d, int x, int y) {
            if (ground == SIXES && d == 2) {
                return isEven(x, y) ? 1 : -1;
            }
            int at = 6 * ground + d;
            return at >= 0 && at < SHIFT_Y.length ? SHIFT_Y[at] : 0;
        }

        static int shiftZ(int ground, int d) {
            if (ground != CUBES) {
                return 0;
            }
            return d == 2 ? 1 : d == 5 ? -1 : 0;
        }

        static boolean isEven(int x, int y) {
            return ((x + y) & 1) == 0;
        }

        static int square(int ground, int x, int y, int z) {
            int plain = x * x + y * y + z * z;
            return ground == THIRDS ? plain + x * y : plain;
        }

        static int opposite(int ground, int d) {
            if (ground == SIXES) {
                return d == 2 ? 2 : 1 - d;
            }
            int half = directions(ground) / 2;
            return d < half ? d + half : d - half;
        }

        /** The DIRECTION that the TURN t gives d; SIXES have no TURNS and keep it. */
        static int turned(int ground, int t, int d) {
            if (ground == SIXES) {
                return d;
            }
            if (ground == CUBES) {
                return turnedInCubes(t, d);
            }
            int many = directions(ground);
            // Never below 0 and never twice as many: one subtraction leaves the rest.
            int sum = t < many ? d + t : t - d;
            return sum >= many ? sum - many : sum;
        }

        private static int turnedInCubes(int t, int d) {
            int axis = d < 3 ? d : d - 3;
            boolean backward = d >= 3;
            boolean flipped = (((t & 7) >> axis) & 1) == 1;
            int at = 3 * (t >> 3) + axis;
            int newAxis = at >= 0 && at < AXES.length ? AXES[at] : axis;
            return backward == flipped ? newAxis : newAxis + 3;
        }

        /** Whether one step leads from the PLACE to the BEGINNING. */
        static boolean isBesideBeginning(int ground, int x, int y, int z) {
            // On every GROUND these are the PLACES of SQUARE 1, but on SIXES no step leads up from 0, -1.
            return square(ground, x, y, z) == 1 && (ground != SIXES || y >= 0);
        }
    }

    /** Steps from the BEGINNING on that come to no PLACE twice, and their PLACES. */
    private static final class Row {
        final int most;
        final int[] steps;
        final int[] xs;
        final int[] ys;
        final int[] zs;
        int ground = SQUARES;
        int size = 0;

        Row(int most) {
            this.most = Math.max(0, Math.min(most, 2 * MOST_STEPS));
            steps = new int[this.most];
            xs = new int[this.most + 1];
            ys = new int[this.most + 1];
            zs = new int[this.most + 1];
        }

        void begin(int onGround) {
            ground = onGround;
            size = 0;
        }

        int direction(int i) {
            return cell(steps, i);
        }

        int endX() {
            return cell(xs, size);
        }

        int endY() {
            return cell(ys, size);
        }

        int endZ() {
            return cell(zs, size);
        }

        private boolean hasCome(int x, int y, int z) {
            for (int i = size; i >= 0; i--) {
                if (cell(xs, i) == x && cell(ys, i) == y && cell(zs, i) == z) {
                    return true;
                }
            }
            return false;
        }

        /** Whether d leads from the end to a PLACE not come to. */
        boolean leads(int d) {
            return !hasCome(endX() + Ground.shiftX(ground, d),
                endY() + Ground.shiftY(ground, d, endX(), endY()),
                endZ() + Ground.shiftZ(ground, d));
        }

        /** One step more, unless it comes to a PLACE twice or there is no room: whether it is laid. */
        boolean lay(int d) {
            if (size >= most || !leads(d)) {
                return false;
            }
            int x = endX() + Ground.shiftX(ground, d);
            int y = endY() + Ground.shiftY(ground, d, endX(), endY());
            int z = endZ() + Ground.shiftZ(ground, d);
            put(steps, size, d);
            size++;
            put(xs, size, x);
            put(ys, size, y);
            put(zs, size, z);
            return true;
        }

        void drop(int n) {
            size = Math.max(0, size - Math.max(0, n));
        }

        void become(Row other) {
            if (other == null || other.size > most) {
                return;
            }
            ground = other.ground;
            size = other.size;
            for (int i = 0; i <= size; i++) {
                put(steps, i, cell(other.steps, i));
                put(xs, i, cell(other.xs, i));
                put(ys, i, cell(other.ys, i));
                put(zs, i, cell(other.zs, i));
            }
        }

        boolean isRing() {
            return size >= 2 && Ground.isBesideBeginning(ground, endX(), endY(), endZ());
        }

        int twiceArea() {
            int sum = 0;
            // The last PLACE's part is 0, since the BEGINNING is next behind it.
            for (int i = 0; i < size; i++) {
                sum += cell(xs, i) * cell(ys, i + 1) - cell(xs, i + 1) * cell(ys, i);
            }
            return Math.abs(sum);
        }

        int bends() {
            int found = 0;
            for (int i = 1; i < size; i++) {
                if (direction(i) != direction(i - 1)) {
                    found++;
                }
            }
            return found;
        }

        boolean isBridge() {
            for (int i = 1; i <= size; i++) {
                if (cell(xs, i) <= 0 || cell(xs, i) > endX()) {
                    return false;
                }
            }
            return true;
        }

        int leadsOn() {
            int found = 0;
            for (int d = 0; d < Ground.directions(ground); d++) {
                if (leads(d)) {
                    found++;
                }
            }
            return found;
        }

        long digestOnto(long begun) {
            long h = 31 * begun + ground;
            for (int i = 0; i < size; i++) {
                h = 31 * h + direction(i);
            }
            return h;
        }
    }

    /** Which WALKS lie alike: FORMS, and how many there are. */
    private static final class Likeness {
        static void writeForm(Row row, int[] best) {
            for (int i = 0; i < row.size; i++) {
                put(best, i, row.direction(i));
            }
            for (int t = 0; t < Ground.turns(row.ground); t++) {
                keepLesser(row, t, false, best);
                keepLesser(row, t, true, best);
            }
        }

        private static void keepLesser(Row row, int t, boolean backward, int[] best) {
            if (!isBelow(row, t, backward, best)) {
                return;
            }
            for (int i = 0; i < row.size; i++) {
                put(best, i, turnedStep(row, t, backward, i));
            }
        }

        private static int turnedStep(Row row, int t, boolean backward, int i) {
            int d = backward
                ? Ground.opposite(row.ground, row.direction(row.size - 1 - i))
                : row.direction(i);
            return Ground.turned(row.ground, t, d);
        }

        /** Whether the row, turned by t, is less than best at the first DIRECTION that differs. */
        private static boolean isBelow(Row row, int t, boolean backward, int[] best) {
            for (int i = 0; i < row.size; i++) {
                int difference = turnedStep(row, t, backward, i) - cell(best, i);
                if (difference != 0) {
                    return difference < 0;
                }
            }
            return false;
        }

        private static boolean isOwnForm(Row row) {
            for (int t = 0; t < Ground.turns(row.ground); t++) {
                if (isBelow(row, t, false, row.steps) || isBelow(row, t, true, row.steps)) {
                    return false;
                }
            }
            return true;
        }

        /**
         * How many WALKS of n steps that begin as the row does are their own FORMS. A FORM is a WALK,
         * and its own FORM, so that these are all FORMS, each once.
         */
        private static int countForms(Row row, int n, int depth) {
            if (depth >= n || depth >= MOST_FORM_STEPS) {
                return isOwnForm(row) ? 1 : 0;
            }
            int found = 0;
            for (int d = 0; d < Ground.directions(row.ground); d++) {
                if (row.lay(d)) {
                    found += countForms(row, n, depth + 1);
                    row.drop(1);
                }
            }
            return found;
        }
    }

    /** What is COUNTED of one GROUND, by the number of steps; each number of steps is counted once. */
    private static final class Tally {
        private static final int NEVER = 1000;
        final int ground;
        // How far the cells go. 3^13 WALKS on CUBES go up alone: 13 steps are SPENT without counting.
        final int range;
        final int side;
        final boolean[] taken;
        final int[] walkCounts = new int[MOST_COUNTED_STEPS + 1];
        final long[] squareSums = new long[MOST_COUNTED_STEPS + 1];
        final int[] ringCounts = new int[MOST_COUNTED_STEPS + 1];
        final int[] bridgeCounts = new int[MOST_COUNTED_STEPS + 1];
        final int[] formCounts = new int[MOST_FORM_STEPS + 1];
        final int[] reachCounts = new int[MOST_REACH_STEPS + 1];
        int level = 0;
        int counted = 0;
        int together = 0;
        boolean spent = false;

        Tally(int ground) {
            this.ground = ground;
            range = ground == CUBES ? 12 : MOST_COUNTED_STEPS;
            side = 2 * range + 1;
            taken = new boolean[ground == CUBES ? side * side * side : side * side];
            for (int n = 0; n < walkCounts.length; n++) {
                // Of no steps there is one WALK.
                walkCounts[n] = n == 0 ? 1 : 0;
            }
            for (int n = 0; n < formCounts.length; n++) {
                formCounts[n] = NONE;
            }
            for (int n = 0; n < reachCounts.length; n++) {
                reachCounts[n] = NONE;
            }
        }

        /** Whether WALKS of n steps are counted, now at the latest; if not, they are SPENT. */
        boolean holds(int n) {
            for (int next = counted + 1; next <= n && next <= range && !spent; next++) {
                countLevel(next);
            }
            return n <= counted;
        }

        private void countLevel(int steps) {
            level = steps;
            int begin = cellOf(0, 0, 0);
            setTaken(begin, true);
            extend(this, 0, 0, 0, 0, 0);
            setTaken(begin, false);
            if (!spent) {
                counted = steps;
                together += cell(walkCounts, steps);
            }
        }

        /**
         * Lays every further step behind depth steps that end at x, y, z. The most x come to since the
         * BEGINNING is top, or NEVER, above any x, once an x was not above 0.
         */
        private static void extend(Tally tally, int depth, int x, int y, int z, int top) {
            int ground = tally.ground;
            int many = Ground.directions(ground);
            for (int d = 0; d < many && !tally.spent; d++) {
                int nextX = x + Ground.shiftX(ground, d);
                int nextY = y + Ground.shiftY(ground, d, x, y);
                int nextZ = z + Ground.shiftZ(ground, d);
                int at = tally.cellOf(nextX, nextY, nextZ);
                if (tally.isTaken(at)) {
                    continue;
                }
                int nextTop = nextX <= 0 ? NEVER : Math.max(top, nextX);
                if (depth + 1 >= tally.level) {
                    tally.score(nextX, nextY, nextZ, nextTop);
                } else {
                    tally.setTaken(at, true);
                    extend(tally, depth + 1, nextX, nextY, nextZ, nextTop);
                    tally.setTaken(at, false);
                }
            }
        }

        /** One WALK of as many steps as the level tells, by its last PLACE. */
        private void score(int x, int y, int z, int top) {
            if (level < 0 || level >= walkCounts.length || level >= squareSums.length
                || level >= ringCounts.length || level >= bridgeCounts.length) {
                return;
            }
            walkCounts[level]++;
            squareSums[level] += Ground.square(ground, x, y, z);
            if (Ground.isBesideBeginning(ground, x, y, z)) {
                ringCounts[level]++;
            }
            if (top == x) {
                bridgeCounts[level]++;
            }
            spent = together + walkCounts[level] > MOST_COUNTED_WALKS;
        }

        private int cellOf(int x, int y, int z) {
            int flat = x + range + side * (y + range);
            return ground == CUBES ? flat + side * side * (z + range) : flat;
        }

        private boolean isTaken(int at) {
            return at < 0 || at >= taken.length || taken[at];
        }

        private void setTaken(int at, boolean now) {
            if (at >= 0 && at < taken.length) {
                taken[at] = now;
            }
        }
    }

    /** Turnings that lead from WALK to WALK of a number of steps; a WALK stands as its digits' number. */
    private static final class Turnings {
        // What the number of a row stands at; 0 is that it is no WALK.
        private static final int A_WALK = 1, REACHED = 2;
        final int ground;
        final int steps;
        final int base;
        final byte[] states;
        final int[] queue;
        final int[] digits = new int[MOST_REACH_STEPS];
        int queued = 0;

        Turnings(int ground, int steps, int rowCount) {
            this.ground = ground;
            this.steps = Math.max(0, Math.min(steps, MOST_REACH_STEPS));
            base = Ground.directions(ground);
            int room = Math.max(0, Math.min(rowCount, MOST_REACH_ROWS));
            states = new byte[room];
            queue = new int[room];
        }

        int countReached(Row trial) {
            trial.begin(ground);
            markWalks(this, trial, 0, 0);
            arriveAt(0);
            for (int head = 0; head < queued && head < queue.length; head++) {
                takeApart(queue[head]);
                for (int k = 0; k < steps; k++) {
                    for (int t = 0; t < Ground.turns(ground); t++) {
                        arriveAt(numberTurned(k, t));
                    }
                }
            }
            return queued;
        }

        private static void markWalks(Turnings all, Row row, int depth, int number) {
            if (depth >= all.steps || depth >= MOST_REACH_STEPS) {
                if (number >= 0 && number < all.states.length) {
                    all.states[number] = A_WALK;
                }
                return;
            }
            for (int d = 0; d < all.base; d++) {
                if (row.lay(d)) {
                    markWalks(all, row, depth + 1, number * all.base + d);
                    row.drop(1);
                }
            }
        }

        private void arriveAt(int number) {
            if (number < 0 || number >= states.length || states[number] != A_WALK
                || queued < 0 || queued >= queue.length) {
                return;
            }
            states[number] = REACHED;
            queue[queued] = number;
            queued++;
        }

        private void takeApart(int number) {
            if (base < 1) {
                return;
            }
            int rest = number;
            for (int i = steps - 1; i >= 0; i--) {
                put(digits, i, rest % base);
                rest /= base;
            }
        }

        /** The number of the WALK taken apart, TURNED ABOUT its k-th PLACE by t. */
        private int numberTurned(int k, int t) {
            int number = 0;
            for (int i = 0; i < steps; i++) {
                int d = cell(digits, i);
                number = number * base + (i < k ? d : Ground.turned(ground, t, d));
            }
            return number;
        }
    }

    /** THE BOARD and the WAYS on it. */
    private static final class Plane {
        // A bit a PLACE, eight bits a line, with an empty line all around: no step leaves the 64 bits.
        private static final int LINE = 8;
        private static final int FIRST = LINE + 1;
        private static final int MOST_DEPTH = MOST_SIDE * MOST_SIDE;
        private static final int[] SHIFTS = {1, LINE, -1, -LINE};
        final int[] waysBySteps = new int[MOST_DEPTH];
        int w = LEAST_SIDE;
        int h = LEAST_SIDE;
        long open = 0;
        int rowCount = 0;
        int allWays = 0;
        int fullWays = 0;
        boolean isCountedNow = false;
        boolean spent = false;

        Plane() {
            lay(LEAST_SIDE, LEAST_SIDE);
        }

        void lay(int newW, int newH) {
            w = newW;
            h = newH;
            open = 0;
            for (int y = 0; y < h; y++) {
                for (int x = 0; x < w; x++) {
                    open |= bitOf(x, y);
                }
            }
            isCountedNow = false;
        }

        private static int numberOf(int x, int y) {
            return FIRST + x + LINE * y;
        }

        private static long bitOf(int x, int y) {
            return 1L << numberOf(x, y);
        }

        boolean isHole(int x, int y) {
            return (open & bitOf(x, y)) == 0;
        }

        boolean isCorner(int x, int y) {
            return x == 0 && y == 0 || x == w - 1 && y == h - 1;
        }

        void turnOver(int x, int y) {
            open ^= bitOf(x, y);
            isCountedNow = false;
        }

        /** Whether the WAYS are counted, now at the latest; if not, they are SPENT. */
        boolean holds() {
            if (!isCountedNow) {
                countWays();
                isCountedNow = true;
            }
            return !spent;
        }

        private void countWays() {
            rowCount = 0;
            allWays = 0;
            fullWays = 0;
            spent = false;
            for (int n = 0; n < waysBySteps.length; n++) {
                waysBySteps[n] = 0;
            }
            extend(this, 0, FIRST, open & ~bitOf(0, 0));
        }

        /** Lays every further step behind depth steps that end at the PLACE; rest has not been come to. */
        private static void extend(Plane plane, int depth, int place, long rest) {
            if (depth >= MOST_DEPTH) {
                return;
            }
            int goal = numberOf(plane.w - 1, plane.h - 1);
            for (int shift : SHIFTS) {
                int next = place + shift;
                long bit = 1L << next;
                if ((rest & bit) == 0 || plane.spent) {
                    continue;
                }
                plane.rowCount++;
                plane.spent = plane.rowCount > MOST_COUNTED_WALKS;
                if (next == goal) {
                    plane.score(depth + 1, (rest & ~bit) == 0);
                }
                // Rows that go on behind the goal are no WAYS, but count towards SPENT.
                extend(plane, depth + 1, next, rest & ~bit);
            }
        }

        private void score(int steps, boolean full) {
            allWays++;
            if (full) {
                fullWays++;
            }
            put(waysBySteps, steps, cell(waysBySteps, steps) + 1);
        }

        int shortestSteps() {
            long goal = bitOf(w - 1, h - 1);
            long come = bitOf(0, 0);
            for (int n = 0; n < MOST_DEPTH; n++) {
                if ((come & goal) != 0) {
                    return n;
                }
                long beside = come << 1 | come >>> 1 | come << LINE | come >>> LINE;
                come |= beside & open;
            }
            return NONE;
        }

        long digestOnto(long begun) {
            long hash = begun;
            for (int y = 0; y < h; y++) {
                for (int x = 0; x < w; x++) {
                    if (isHole(x, y)) {
                        hash = 31 * hash + (x + w * y);
                    }
                }
            }
            return hash;
        }
    }
}
