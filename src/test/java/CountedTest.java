/** Promises 13 to 18: WALKS counted by their steps. */
public final class CountedTest {
    private static final int BAD = -2, SPENT = -5;
    private static final Due CHECK = new Due();

    // Known numbers of WALKS of 0, 1, 2 .. steps, as far as they are not SPENT.
    private static final int[][] WALKS = {
        {1, 4, 12, 36, 100, 284, 780, 2172, 5916, 16268, 44100, 120292, 324932},
        {1, 6, 30, 138, 618, 2730, 11946, 51882, 224130},
        {1, 3, 6, 12, 24, 48, 90, 174, 336, 648, 1218, 2328, 4416, 8388, 15780, 29892, 56268, 106200, 199350},
        {1, 6, 30, 150, 726, 3534, 16926, 81390, 387966},
    };

    public static void main(String[] args) {
        walks();
        squares();
        rings();
        bridges();
        forms();
        reach();
        wrongInputs();
        againAndAgain();
        CHECK.end();
    }

    private static void due(String call, long got, long want) {
        CHECK.due(call, got, want);
    }

    private static void walks() {
        for (int ground = 0; ground < 4; ground++) {
            WalkGrounds x = new WalkGrounds();
            int last = WALKS[ground].length - 1;
            due("walks(" + ground + ", 20)", x.walks(ground, 20), SPENT);
            for (int n = 20; n >= 0; n--) {
                long want = n > last ? SPENT : WALKS[ground][n];
                due("walks(" + ground + ", " + n + ")", x.walks(ground, n), want);
            }
            WalkGrounds fresh = new WalkGrounds();
            due("walks(" + ground + ", last)", fresh.walks(ground, last), WALKS[ground][last]);
            due("walks(" + ground + ", last + 1)", fresh.walks(ground, last + 1), SPENT);
        }
    }

    private static void squares() {
        WalkGrounds x = new WalkGrounds();
        long[] squares = {0, 4, 32, 164, 704, 2716, 9808, 33788};
        for (int n = 0; n < squares.length; n++) {
            due("squares(0, " + n + ")", x.squares(0, n), squares[n]);
        }
        due("squares(1, 1)", x.squares(1, 1), 6);
        due("squares(1, 2)", x.squares(1, 2), 6 * 4 + 12 * 3 + 12);
        due("squares(2, 1)", x.squares(2, 1), 3);
        due("squares(2, 2)", x.squares(2, 2), 2 * 4 + 4 * 2);
        due("squares(3, 2)", x.squares(3, 2), 6 * 4 + 24 * 2);
        due("squares(0, 12)", x.squares(0, 12), squaresSlowly(12));
        due("squares(0, 13)", x.squares(0, 13), SPENT);
        due("squares(3, 9)", x.squares(3, 9), SPENT);
        due("squares(2, 18) above 0", x.squares(2, 18) > 0 ? 1 : 0, 1);
        due("squares(2, 19)", x.squares(2, 19), SPENT);
    }

    /** On SQUARES, by turning the first step: four times those that begin with x + 1. */
    private static long squaresSlowly(int n) {
        boolean[][] come = new boolean[2 * n + 3][2 * n + 3];
        come[n + 1][n + 1] = true;
        return 4 * behind(come, n + 2, n + 1, n - 1, n + 1);
    }

    private static long behind(boolean[][] come, int x, int y, int left, int zero) {
        if (come[x][y]) {
            return 0;
        }
        if (left == 0) {
            return (long) (x - zero) * (x - zero) + (long) (y - zero) * (y - zero);
        }
        come[x][y] = true;
        long sum = behind(come, x + 1, y, left - 1, zero) + behind(come, x - 1, y, left - 1, zero)
            + behind(come, x, y + 1, left - 1, zero) + behind(come, x, y - 1, left - 1, zero);
        come[x][y] = false;
        return sum;
    }

    private static void rings() {
        WalkGrounds x = new WalkGrounds();
        int[] squares = {0, 8, 0, 24, 0, 112, 0, 560, 0, 2976, 0};
        for (int n = 3; n < 3 + squares.length; n++) {
            due("rings(0, " + n + ")", x.rings(0, n), squares[n - 3]);
        }
        due("rings(0, 14)", x.rings(0, 14), SPENT);
        int[] thirds = {12, 24, 60, 180, 588, 1968, 6840};
        for (int n = 3; n < 3 + thirds.length; n++) {
            due("rings(1, " + n + ")", x.rings(1, n), thirds[n - 3]);
        }
        due("rings(1, 10)", x.rings(1, 10), SPENT);
        int[] sixes = {0, 0, 0, 6, 0, 0, 0, 30, 0, 24};
        for (int n = 3; n < 3 + sixes.length; n++) {
            due("rings(2, " + n + ")", x.rings(2, n), sixes[n - 3]);
        }
        due("rings(2, 19)", x.rings(2, 19), 0);
        due("rings(2, 20)", x.rings(2, 20), SPENT);
        int[] cubes = {0, 24, 0, 264, 0, 3312, 0};
        for (int n = 3; n < 3 + cubes.length; n++) {
            due("rings(3, " + n + ")", x.rings(3, n), cubes[n - 3]);
        }
        due("rings(3, 10)", x.rings(3, 10), SPENT);
        for (int ground = 0; ground < 4; ground++) {
            due("rings of 2", x.rings(ground, 2), BAD);
            due("rings of 21", x.rings(ground, 21), BAD);
        }
    }

    private static void bridges() {
        WalkGrounds x = new WalkGrounds();
        int[] squares = {1, 3, 7, 17};
        for (int n = 1; n <= squares.length; n++) {
            due("bridges(0, " + n + ")", x.bridges(0, n), squares[n - 1]);
        }
        due("bridges(1, 1)", x.bridges(1, 1), 2);
        due("bridges(1, 2)", x.bridges(1, 2), 8);
        due("bridges(1, 3)", x.bridges(1, 3), 28);
        due("bridges(2, 1)", x.bridges(2, 1), 1);
        due("bridges(2, 2)", x.bridges(2, 2), 2);
        due("bridges(2, 10)", x.bridges(2, 10), 136);
        due("bridges(3, 1)", x.bridges(3, 1), 1);
        due("bridges(3, 2)", x.bridges(3, 2), 5);
        due("bridges(0, 12) above 0", x.bridges(0, 12) > 0 ? 1 : 0, 1);
        due("bridges(0, 13)", x.bridges(0, 13), SPENT);
        for (int ground = 0; ground < 4; ground++) {
            due("bridges of 0", x.bridges(ground, 0), BAD);
            due("bridges of 21", x.bridges(ground, 21), BAD);
            due("bridges of 20", x.bridges(ground, 20), SPENT);
        }
    }

    private static void forms() {
        WalkGrounds x = new WalkGrounds();
        int[] squares = {1, 1, 2, 4, 9, 22, 56, 147};
        for (int n = 0; n < squares.length; n++) {
            due("forms(0, " + n + ")", x.forms(0, n), squares[n]);
        }
        for (int n = 0; n <= 7; n++) {
            due("forms(2, " + n + ")", x.forms(2, n), WALKS[2][n]);
        }
        due("forms(1, 1)", x.forms(1, 1), 1);
        due("forms(1, 2)", x.forms(1, 2), 3);
        due("forms(1, 6)", x.forms(1, 6), SPENT);
        due("forms(1, 7)", x.forms(1, 7), SPENT);
        due("forms(3, 2)", x.forms(3, 2), 2);
        due("forms(3, 3)", x.forms(3, 3), 5);
        due("forms(3, 5)", x.forms(3, 5), SPENT);
        for (int ground = 0; ground < 4; ground++) {
            due("forms of 8", x.forms(ground, 8), BAD);
            due("forms of -1", x.forms(ground, -1), BAD);
            due("forms of 0", x.forms(ground, 0), 1);
        }
    }

    private static void reach() {
        WalkGrounds x = new WalkGrounds();
        for (int n = 1; n <= 6; n++) {
            due("reach(0, " + n + ")", x.reach(0, n), WALKS[0][n]);
        }
        for (int n = 1; n <= 5; n++) {
            due("reach(1, " + n + ")", x.reach(1, n), WALKS[1][n]);
            due("reach(3, " + n + ")", x.reach(3, n), WALKS[3][n]);
        }
        due("reach(1, 6)", x.reach(1, 6), SPENT);
        due("reach(3, 6)", x.reach(3, 6), SPENT);
        for (int n = 0; n <= 7; n++) {
            due("reach(2, " + n + ")", x.reach(2, n), BAD);
        }
        for (int ground = 0; ground < 4; ground++) {
            due("reach of 0", x.reach(ground, 0), BAD);
            due("reach of 7", x.reach(ground, 7), BAD);
        }
    }

    private static void wrongInputs() {
        WalkGrounds x = new WalkGrounds();
        int[] grounds = {-1, 4, Integer.MAX_VALUE, Integer.MIN_VALUE};
        for (int ground : grounds) {
            due("walks on " + ground, x.walks(ground, 4), BAD);
            due("squares on " + ground, x.squares(ground, 4), BAD);
            due("rings on " + ground, x.rings(ground, 4), BAD);
            due("bridges on " + ground, x.bridges(ground, 4), BAD);
            due("forms on " + ground, x.forms(ground, 4), BAD);
            due("reach on " + ground, x.reach(ground, 4), BAD);
        }
        int[] numbers = {-1, 21, Integer.MAX_VALUE, Integer.MIN_VALUE};
        for (int n : numbers) {
            due("walks of " + n, x.walks(0, n), BAD);
            due("squares of " + n, x.squares(0, n), BAD);
            due("rings of " + n, x.rings(0, n), BAD);
            due("bridges of " + n, x.bridges(0, n), BAD);
            due("forms of " + n, x.forms(0, n), BAD);
            due("reach of " + n, x.reach(0, n), BAD);
        }
    }

    /** Answers stay the same however the calls lie to one another, and counting leaves WALKS as they are. */
    private static void againAndAgain() {
        WalkGrounds x = new WalkGrounds();
        x.walk(3);
        x.step(0, 2);
        long before = x.digest();
        for (int round = 0; round < 30; round++) {
            for (int ground = 0; ground < 4; ground++) {
                int n = 1 + (round * 7 + ground) % WALKS[ground].length;
                long want = n < WALKS[ground].length ? WALKS[ground][n] : SPENT;
                due("walks(" + ground + ", " + n + ") again", x.walks(ground, n), want);
            }
            due("forms(3, 3) again", x.forms(3, 3), 5);
            due("reach(3, 3) again", x.reach(3, 3), 150);
        }
        due("digest() behind counting", x.digest(), before);
        due("stepAt(0, 0) behind counting", x.stepAt(0, 0), 2);
    }
}
