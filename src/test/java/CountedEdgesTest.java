import java.util.function.Supplier;

/**
 * Promises 13 to 18 and the term COUNTED at their edges: each number of steps on either side of what is told,
 * asked of a fresh object and of one that has counted before; the first that is SPENT; and BAD ahead of SPENT.
 */
public final class CountedEdgesTest {
    private static final int BAD = -2, SPENT = -5;
    private static final int SQUARES = 0, THIRDS = 1, SIXES = 2, CUBES = 3;
    private static final int MIN = Integer.MIN_VALUE, MAX = Integer.MAX_VALUE;
    private static final int[] FAR = {MIN, MIN + 1, -1000, -21, -2, -1, 22, 23, 24, 60, 61, 1000, MAX - 1, MAX};
    private static final int[] NO_GROUNDS = {MIN, -2, -1, 4, 5, 16, MAX};
    // The most steps whose WALKS, of 1 step and more together, are no more than 600000.
    private static final int[] LAST = {12, 8, 18, 8};
    private static final int[][] SHIFTS = {
        {1, 0, 0, 0, 1, 0, -1, 0, 0, 0, -1, 0},
        {1, 0, 0, 0, 1, 0, -1, 1, 0, -1, 0, 0, 0, -1, 0, 1, -1, 0},
        {1, 0, 0, -1, 0, 0, 0, 9, 0},
        {1, 0, 0, 0, 1, 0, 0, 0, 1, -1, 0, 0, 0, -1, 0, 0, 0, -1},
    };
    private static final Due CHECK = new Due();

    public static void main(String[] args) {
        for (int ground = SQUARES; ground <= CUBES; ground++) {
            CountedEdgesTest slow = new CountedEdgesTest(ground);
            slow.allSteps();
            slow.togetherIsSpent();
            slow.backward();
            slow.eachFirst();
        }
        formsOf();
        reachOf();
        noSuchGround();
        changesNothing();
        CHECK.end();
    }

    private static void due(String call, long got, long want) {
        CHECK.due(call, got, want);
    }

    private final int ground;
    private final int last;
    private final boolean[][][] come = new boolean[41][41][41];
    private final long[] walks = new long[21];
    private final long[] squares = new long[21];
    private final long[] rings = new long[22];
    private final long[] bridges = new long[21];

    /** Counts every WALK of up to LAST steps one by one. */
    private CountedEdgesTest(int ground) {
        this.ground = ground;
        last = LAST[ground];
        come[20][20][20] = true;
        walks[0] = 1;
        goOn(0, new int[3], 0, true);
    }

    private void goOn(int n, int[] place, int mostX, boolean above) {
        int[] shifts = SHIFTS[ground];
        for (int d = 0; n < last && d < shifts.length; d += 3) {
            int[] next = {place[0] + shifts[d], place[1] + shifts[d + 1], place[2] + shifts[d + 2]};
            if (shifts[d + 1] == 9) {
                next[1] = place[1] + (Math.floorMod(place[0] + place[1], 2) == 0 ? 1 : -1);
            }
            boolean[] row = come[20 + next[0]][20 + next[1]];
            if (!row[20 + next[2]]) {
                row[20 + next[2]] = true;
                note(n + 1, next, mostX, above);
                goOn(n + 1, next, Math.max(mostX, next[0]), above && next[0] > 0);
                row[20 + next[2]] = false;
            }
        }
    }

    private void note(int n, int[] place, int mostX, boolean above) {
        int x = place[0];
        int y = place[1];
        walks[n]++;
        squares[n] += ground == THIRDS ? x * x + x * y + y * y : x * x + y * y + place[2] * place[2];
        rings[n + 1] += isBesideBeginning(place) && n >= 2 ? 1 : 0;
        bridges[n] += above && x > 0 && x >= mostX ? 1 : 0;
    }

    private boolean isBesideBeginning(int[] place) {
        int[] shifts = SHIFTS[ground];
        for (int d = 0; d < shifts.length; d += 3) {
            // From the BEGINNING the third DIRECTION of SIXES leads up.
            int shiftY = shifts[d + 1] == 9 ? 1 : shifts[d + 1];
            if (place[0] == shifts[d] && place[1] == shiftY && place[2] == shifts[d + 2]) {
                return true;
            }
        }
        return false;
    }

    /** What is due of these steps, where they are told from least up to 20. */
    private long want(long[] counts, int n, int least, int lastCounted) {
        return n < least || n > 20 ? BAD : n > lastCounted ? SPENT : counts[n];
    }

    private void allDue(WalkGrounds x, int n, String how) {
        String with = "(" + ground + ", " + n + ")" + how;
        due("walks" + with, x.walks(ground, n), want(walks, n, 0, last));
        due("squares" + with, x.squares(ground, n), want(squares, n, 0, last));
        due("rings" + with, x.rings(ground, n), want(rings, n, 3, last + 1));
        due("bridges" + with, x.bridges(ground, n), want(bridges, n, 1, last));
    }

    /** From below 0 to above 20, each number of steps. */
    private void allSteps() {
        WalkGrounds x = new WalkGrounds();
        for (int n = -3; n <= 23; n++) {
            allDue(x, n, " upward");
        }
        for (int n : FAR) {
            allDue(x, n, " far off");
            allDue(new WalkGrounds(), n, " far off, fresh");
        }
    }

    /** Larger numbers first, so that what is SPENT is known ahead of what is not. */
    private void backward() {
        WalkGrounds x = new WalkGrounds();
        for (int n = 23; n >= -3; n--) {
            allDue(x, n, " downward");
        }
    }

    /** "SPENT, if there are more than 600000 of 1 to n steps together" */
    private void togetherIsSpent() {
        long together = 0;
        for (int n = 1; n <= last; n++) {
            together += walks[n];
        }
        due("not SPENT on " + ground, together <= 600000 ? 1 : 0, 1);
        // Known numbers of WALKS of a step more: on SIXES they alone are fewer, and SPENT only together.
        long[] next = {881500, 964134, 375504, 1853886};
        due("SPENT on " + ground, together + next[ground] > 600000 ? 1 : 0, 1);
    }

    /** Each call as the first that counts on its object, on both sides of what is SPENT and of what is told. */
    private void eachFirst() {
        for (int n : new int[] {-1, 0, 1, 2, 3, last, last + 1, last + 2, 20, 21}) {
            String with = "(" + ground + ", " + n + ") at first";
            due("walks" + with, new WalkGrounds().walks(ground, n), want(walks, n, 0, last));
            due("squares" + with, new WalkGrounds().squares(ground, n), want(squares, n, 0, last));
            due("rings" + with, new WalkGrounds().rings(ground, n), want(rings, n, 3, last + 1));
            due("bridges" + with, new WalkGrounds().bridges(ground, n), want(bridges, n, 1, last));
        }
    }

    /** Promise 17: "n steps (0 .. 7)", "SPENT: there are more than 3000 WALKS of n steps" */
    private static void formsOf() {
        int[][] known = {{1, 1, 2, 4, 9, 22, 56, 147}, {1, 1, 3, 8, 32, 123}, {1, 3, 6, 12, 24, 48, 90, 174},
            {1, 1, 2, 5, 15}};
        for (int ground = SQUARES; ground <= CUBES; ground++) {
            WalkGrounds up = new WalkGrounds();
            WalkGrounds down = new WalkGrounds();
            for (int n = -3; n <= 23; n++) {
                int m = 20 - n;
                due("forms(" + ground + ", " + n + ")", up.forms(ground, n), formsWant(known[ground], n));
                due("forms(" + ground + ", " + n + ") once more", up.forms(ground, n), formsWant(known[ground], n));
                due("forms(" + ground + ", " + m + ") downward", down.forms(ground, m),
                    formsWant(known[ground], m));
                due("forms(" + ground + ", " + n + ") at first", new WalkGrounds().forms(ground, n),
                    formsWant(known[ground], n));
            }
            for (int n : FAR) {
                due("forms(" + ground + ", " + n + ")", up.forms(ground, n), BAD);
            }
        }
        // The last that is counted and the first that is SPENT lie on both sides of 3000 WALKS.
        due("walks(1, 5)", new WalkGrounds().walks(THIRDS, 5), 2730);
        due("walks(3, 5)", new WalkGrounds().walks(CUBES, 5), 3534);
        due("walks(0, 7)", new WalkGrounds().walks(SQUARES, 7), 2172);
    }

    private static int formsWant(int[] known, int n) {
        return n < 0 || n > 7 ? BAD : n >= known.length ? SPENT : known[n];
    }

    /** Promise 18: "n steps (1 .. 6)", "BAD: also SIXES", SPENT above 10000: 6^5 is 7776, 6^6 46656, 4^6 4096 */
    private static void reachOf() {
        int[][] known = {{0, 4, 12, 36, 100, 284, 780}, {0, 6, 30, 138, 618, 2730}, {}, {0, 6, 30, 150, 726, 3534}};
        for (int ground = SQUARES; ground <= CUBES; ground++) {
            WalkGrounds up = new WalkGrounds();
            WalkGrounds down = new WalkGrounds();
            for (int n = -3; n <= 23; n++) {
                int m = 20 - n;
                due("reach(" + ground + ", " + n + ")", up.reach(ground, n), reachWant(known[ground], n));
                due("reach(" + ground + ", " + n + ") once more", up.reach(ground, n), reachWant(known[ground], n));
                due("reach(" + ground + ", " + m + ") downward", down.reach(ground, m),
                    reachWant(known[ground], m));
                due("reach(" + ground + ", " + n + ") at first", new WalkGrounds().reach(ground, n),
                    reachWant(known[ground], n));
            }
            for (int n : FAR) {
                due("reach(" + ground + ", " + n + ")", up.reach(ground, n), BAD);
            }
        }
    }

    private static int reachWant(int[] known, int n) {
        return n < 1 || n > 6 || known.length == 0 ? BAD : n >= known.length ? SPENT : known[n];
    }

    /** BAD is ahead of SPENT, which 20 steps would be, and of what one step would be. */
    private static void noSuchGround() {
        for (int ground : NO_GROUNDS) {
            for (int n : new int[] {MIN, -1, 0, 1, 3, 6, 7, 20, 21, MAX}) {
                String with = "(" + ground + ", " + n + ")";
                WalkGrounds x = new WalkGrounds();
                due("walks" + with, x.walks(ground, n), BAD);
                due("squares" + with, x.squares(ground, n), BAD);
                due("rings" + with, x.rings(ground, n), BAD);
                due("bridges" + with, x.bridges(ground, n), BAD);
                due("forms" + with, x.forms(ground, n), BAD);
                due("reach" + with, x.reach(ground, n), BAD);
            }
        }
    }

    private static WalkGrounds someState() {
        WalkGrounds x = Made.board(4, 3, 5);
        Made.and(x, SQUARES, 0, 0, 1);
        Made.and(x, THIRDS, 1, 2);
        return Made.and(Made.and(x, SIXES, 2, 0, 2), CUBES, Made.times(60, 5));
    }

    /** Counting changes nothing, whether it answers, is BAD or SPENT; nor do WALKS change what is counted. */
    private static void changesNothing() {
        Supplier<WalkGrounds> some = CountedEdgesTest::someState;
        int[] walks = {12, 30, 6, 30};
        long[] squares = {32, 6 * 4 + 12 * 3 + 12, 16, 72};
        for (int ground = SQUARES; ground <= CUBES; ground++) {
            int told = ground;
            Made.refuses(CHECK, "walks of 2 on " + ground, some, x -> x.walks(told, 2), walks[ground]);
            Made.refuses(CHECK, "squares of 2 on " + ground, some, x -> x.squares(told, 2), squares[ground]);
            Made.refuses(CHECK, "walks of 20 on " + ground, some, x -> x.walks(told, 20), SPENT);
            Made.refuses(CHECK, "squares of 20 on " + ground, some, x -> x.squares(told, 20), SPENT);
            Made.refuses(CHECK, "rings of 20 on " + ground, some, x -> x.rings(told, 20), SPENT);
            Made.refuses(CHECK, "bridges of 20 on " + ground, some, x -> x.bridges(told, 20), SPENT);
            Made.refuses(CHECK, "forms of 0 on " + ground, some, x -> x.forms(told, 0), 1);
            Made.refuses(CHECK, "walks of 21 on " + ground, some, x -> x.walks(told, 21), BAD);
            Made.refuses(CHECK, "squares of 21 on " + ground, some, x -> x.squares(told, 21), BAD);
            Made.refuses(CHECK, "rings of 2 on " + ground, some, x -> x.rings(told, 2), BAD);
            Made.refuses(CHECK, "bridges of 0 on " + ground, some, x -> x.bridges(told, 0), BAD);
            Made.refuses(CHECK, "forms of 8 on " + ground, some, x -> x.forms(told, 8), BAD);
            Made.refuses(CHECK, "reach of 0 on " + ground, some, x -> x.reach(told, 0), BAD);
            Made.refuses(CHECK, "reach of 2 on " + ground, some, x -> x.reach(told, 2),
                ground == SIXES ? BAD : walks[ground]);
        }
        Made.refuses(CHECK, "forms of 6 on THIRDS", some, x -> x.forms(THIRDS, 6), SPENT);
        Made.refuses(CHECK, "reach of 6 on CUBES", some, x -> x.reach(CUBES, 6), SPENT);
        // Turning and joining go on as they did: what counts lays its own WALKS.
        WalkGrounds x = someState();
        x.forms(SQUARES, 5);
        x.reach(CUBES, 4);
        due("step behind counting", x.step(0, 1), 4);
        due("pivot behind counting", x.pivot(1, 1, 1), 1);
        due("its step", x.stepAt(1, 1), 3);
        due("join behind counting", x.join(0, 0), 8);
        due("forms behind a join", x.forms(SQUARES, 5), 22);
        due("forms never asked", x.forms(SQUARES, 6), 56);
    }
}
