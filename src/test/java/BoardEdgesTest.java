import java.util.function.Supplier;
import java.util.function.ToLongFunction;

/**
 * Promises 19 to 25 and the term BOARDS at their edges: sides and PLACES on either side of what is told, boards
 * full of HOLES and without one, the last board that is counted and the first that is SPENT, each refusal with
 * nothing changed behind it.
 */
public final class BoardEdgesTest {
    private static final int NONE = -1, BAD = -2, NO = -3, SPENT = -5;
    private static final int MIN = Integer.MIN_VALUE, MAX = Integer.MAX_VALUE;
    private static final int[] NO_SIDES = {MIN, -6, -1, 0, 1, 7, 8, MAX};
    private static final Due CHECK = new Due();

    public static void main(String[] args) {
        board();
        boardIsEmptied();
        boardAndWalks();
        holeNumbers();
        holeOnCorners();
        holeIsSo();
        holeLast();
        waysWithoutHoles();
        waysNone();
        waysStraight();
        rowsSpent();
        spentNoMore();
        waysOf();
        waysOfSpent();
        shortest();
        count();
        digest();
        CHECK.end();
    }

    private static void due(String call, long got, long want) {
        CHECK.due(call, got, want);
    }

    private static void refuses(String call, Supplier<WalkGrounds> made, ToLongFunction<WalkGrounds> ask,
            long want) {
        Made.refuses(CHECK, call, made, ask, want);
    }

    private static Supplier<WalkGrounds> on(int w, int h, int... holes) {
        return () -> Made.board(w, h, holes);
    }

    private static void countsAre(String what, WalkGrounds x, int walks, int open, int w, int h) {
        due(what + ": count(0)", x.count(0), walks);
        due(what + ": count(1)", x.count(1), open);
        due(what + ": count(2)", x.count(2), w);
        due(what + ": count(3)", x.count(3), h);
    }

    /** Promise 19: "THE BOARD is w by h", "2 .. 6 each"; "BAD" */
    private static void board() {
        for (int w = 2; w <= 6; w++) {
            for (int h = 2; h <= 6; h++) {
                WalkGrounds x = new WalkGrounds();
                due("board(" + w + ", " + h + ")", x.board(w, h), 1);
                countsAre("board(" + w + ", " + h + ")", x, 0, w * h, w, h);
                due("once more", x.board(w, h), 1);
            }
        }
        for (int wrong : NO_SIDES) {
            for (int side = 2; side <= 6; side++) {
                int told = side;
                refuses("board(" + wrong + ", " + side + ")", on(4, 3, 5), x -> x.board(wrong, told), BAD);
                refuses("board(" + side + ", " + wrong + ")", on(4, 3, 5), x -> x.board(told, wrong), BAD);
            }
            for (int other : NO_SIDES) {
                refuses("board(" + wrong + ", " + other + ")", on(4, 3, 5), x -> x.board(wrong, other), BAD);
            }
        }
    }

    /** Promise 19: "without HOLES", also where it is as large as it was */
    private static void boardIsEmptied() {
        WalkGrounds x = Made.board(3, 3, 1, 2, 3, 4, 5, 6, 7);
        countsAre("all HOLES", x, 0, 2, 3, 3);
        due("board(3, 3)", x.board(3, 3), 1);
        countsAre("board(3, 3) again", x, 0, 9, 3, 3);
        due("ways(false)", x.ways(false), 12);
        due("shortest()", x.shortest(), 4);
        x.hole(1, 1, true);
        due("board(2, 6)", x.board(2, 6), 1);
        due("a PLACE that was a HOLE", x.hole(1, 1, false), NO);
        due("ways(false) on 2 by 6", x.ways(false), 32);
        due("board(6, 2)", x.board(6, 2), 1);
        countsAre("board(6, 2)", x, 0, 12, 6, 2);
        due("ways(false) on 6 by 2", x.ways(false), 32);
    }

    /** "THE BOARD" has nothing to do with the WALKS. */
    private static void boardAndWalks() {
        WalkGrounds x = Made.walk(0, 0, 0, 0);
        x.board(2, 2);
        due("a WALK off the board", x.step(0, 0), 4);
        x.board(6, 6);
        x.hole(0, 1, true);
        due("a WALK to a HOLE", Made.and(x, 0).step(1, 1), 1);
        countsAre("behind them", x, 2, 35, 6, 6);
    }

    /** Promise 20: "BAD", also where it is so or a corner would be near */
    private static void holeNumbers() {
        int[][] sides = {{2, 2}, {3, 4}, {4, 3}, {2, 6}, {6, 2}, {6, 6}};
        for (int[] side : sides) {
            int w = side[0];
            int h = side[1];
            for (boolean yes : new boolean[] {true, false}) {
                for (int x : new int[] {MIN, -1, w, w + 1, MAX}) {
                    for (int y : new int[] {MIN, -1, 0, h - 1, h, MAX}) {
                        refuses("hole(" + x + ", " + y + ", " + yes + ") on " + w + " by " + h, on(w, h),
                            z -> z.hole(x, y, yes), BAD);
                    }
                }
                for (int y : new int[] {MIN, -1, h, h + 1, MAX}) {
                    for (int x : new int[] {0, w - 1}) {
                        refuses("hole(" + x + ", " + y + ", " + yes + ") on " + w + " by " + h, on(w, h),
                            z -> z.hole(x, y, yes), BAD);
                    }
                }
            }
        }
        refuses("a PLACE of the board ahead", () -> {
            WalkGrounds x = Made.board(6, 6);
            x.board(3, 3);
            return x;
        }, x -> x.hole(3, 0, true), BAD);
    }

    /** Promise 20: "NO: .. it is one of the two corners"; the other two corners may be HOLES */
    private static void holeOnCorners() {
        for (int w = 2; w <= 6; w++) {
            for (int h = 2; h <= 6; h++) {
                int farX = w - 1;
                int farY = h - 1;
                String of = " on " + w + " by " + h;
                refuses("hole(0, 0, true)" + of, on(w, h), x -> x.hole(0, 0, true), NO);
                refuses("hole(0, 0, false)" + of, on(w, h), x -> x.hole(0, 0, false), NO);
                refuses("hole at the far corner" + of, on(w, h), x -> x.hole(farX, farY, true), NO);
                refuses("no hole at the far corner" + of, on(w, h), x -> x.hole(farX, farY, false), NO);
                WalkGrounds x = Made.board(w, h);
                due("hole(w - 1, 0, true)" + of, x.hole(farX, 0, true), 1);
                due("hole(0, h - 1, true)" + of, x.hole(0, farY, true), 1);
                countsAre("two HOLES" + of, x, 0, w * h - 2, w, h);
            }
        }
    }

    /** Promise 20: "A PLACE is a HOLE, or not: 1." "NO: it is so" */
    private static void holeIsSo() {
        refuses("no HOLE, as it is", on(3, 4), x -> x.hole(1, 2, false), NO);
        refuses("a HOLE, as it is", on(3, 4, 7), x -> x.hole(1, 2, true), NO);
        WalkGrounds x = Made.board(3, 4);
        for (int y = 0; y < 4; y++) {
            for (int a = 0; a < 3; a++) {
                boolean corner = a + 3 * y == 0 || a + 3 * y == 11;
                due("hole(" + a + ", " + y + ", true)", x.hole(a, y, true), corner ? NO : 1);
            }
        }
        countsAre("all HOLES", x, 0, 2, 3, 4);
        for (int y = 0; y < 4; y++) {
            for (int a = 0; a < 3; a++) {
                boolean corner = a + 3 * y == 0 || a + 3 * y == 11;
                due("once more", x.hole(a, y, true), NO);
                due("hole(" + a + ", " + y + ", false)", x.hole(a, y, false), corner ? NO : 1);
            }
        }
        countsAre("no HOLES", x, 0, 12, 3, 4);
        due("WAYS as at first", x.ways(false), 38);
        due("digest() as at first", x.digest(), Made.board(3, 4).digest());
    }

    /** HOLES close the board, up to the last one, and open it again. */
    private static void holeLast() {
        WalkGrounds x = Made.board(2, 2, 1);
        due("one WAY left", x.ways(false), 1);
        due("it is FULL", x.ways(true), 1);
        due("hole(0, 1, true)", x.hole(0, 1, true), 1);
        due("no WAY left", x.ways(false), 0);
        due("no FULL one", x.ways(true), 0);
        due("shortest()", x.shortest(), NONE);
        due("waysOf(2)", x.waysOf(2), 0);
        due("hole(0, 1, false)", x.hole(0, 1, false), 1);
        due("one WAY again", x.ways(false), 1);
        due("shortest() again", x.shortest(), 2);
        due("waysOf(2) again", x.waysOf(2), 1);
    }

    /** Promise 21: the board as it is at first and the largest one that is counted */
    private static void waysWithoutHoles() {
        due("2 by 2", Made.board(2, 2).ways(false), 2);
        due("2 by 2, FULL", Made.board(2, 2).ways(true), 0);
        due("5 by 5", Made.board(5, 5).ways(false), 8512);
        due("5 by 5, FULL", Made.board(5, 5).ways(true), 104);
        due("6 by 4", Made.board(6, 4).ways(false), 5382);
        due("4 by 6", Made.board(4, 6).ways(false), 5382);
        due("6 by 4, FULL", Made.board(6, 4).ways(true), 0);
        due("4 by 5, FULL", Made.board(4, 5).ways(true), 20);
        refuses("6 by 5", on(6, 5), x -> x.ways(false), SPENT);
        refuses("5 by 6", on(5, 6), x -> x.ways(false), SPENT);
        refuses("5 by 6, FULL", on(5, 6), x -> x.ways(true), SPENT);
        refuses("6 by 6", on(6, 6), x -> x.ways(false), SPENT);
        refuses("6 by 6, FULL", on(6, 6), x -> x.ways(true), SPENT);
    }

    /** No WAY: shut in at the BEGINNING, shut out at the goal, and with no PLACE left but both. */
    private static void waysNone() {
        int[][] shut = {{1, 6}, {29, 34}, {5, 10, 15, 20, 25, 30}, {6, 7, 8, 9, 10, 11}};
        for (int[] holes : shut) {
            WalkGrounds x = Made.board(6, 6, holes);
            due("shortest() shut", x.shortest(), NONE);
        }
        for (int[] holes : new int[][] {{1, 6}, {1, 6, 29, 34}}) {
            WalkGrounds x = Made.board(6, 6, holes);
            due("ways(false) shut in", x.ways(false), 0);
            due("ways(true) shut in", x.ways(true), 0);
            due("waysOf(10) shut in", x.waysOf(10), 0);
        }
        // The goal is shut off, but there are too many rows to know of no WAY.
        refuses("ways(false) shut out", on(6, 6, 29, 34), x -> x.ways(false), SPENT);
        due("shortest() shut out", Made.board(6, 6, 29, 34).shortest(), NONE);
        int[] all = new int[34];
        for (int i = 0; i < 34; i++) {
            all[i] = i + 1;
        }
        WalkGrounds x = Made.board(6, 6, all);
        countsAre("34 HOLES", x, 0, 2, 6, 6);
        due("34 HOLES: ways(false)", x.ways(false), 0);
        due("34 HOLES: ways(true)", x.ways(true), 0);
        due("34 HOLES: shortest()", x.shortest(), NONE);
        due("34 HOLES: waysOf(0)", x.waysOf(0), 0);
    }

    /** Steps go beside one another alone, not over the edge of a line to the next one. */
    private static void waysStraight() {
        // A line of PLACES along two edges alone.
        int[] inner = {6, 7, 8, 9, 10, 12, 13, 14, 15, 16, 18, 19, 20, 21, 22, 24, 25, 26, 27, 28, 30, 31, 32, 33, 34};
        WalkGrounds x = Made.board(6, 6, inner);
        due("one WAY along the edge", x.ways(false), 1);
        due("it is FULL", x.ways(true), 1);
        due("its steps", x.waysOf(10), 1);
        due("shortest()", x.shortest(), 10);
        due("hole(5, 0, true)", x.hole(5, 0, true), 1);
        due("no WAY over the edge", x.ways(false), 0);
        due("shortest()", x.shortest(), NONE);
        due("hole(5, 0, false)", x.hole(5, 0, false), 1);
        due("hole(0, 4, false), a PLACE to which no step leads", x.hole(0, 4, false), 1);
        due("the WAY", x.ways(false), 1);
        due("it is not FULL", x.ways(true), 0);
        // 5, 1 and 0, 2 are 11 and 12, but no step leads from one to the other.
        WalkGrounds over = Made.board(6, 6, 6, 7, 8, 9, 10, 13, 14, 15, 16, 17, 19, 20, 21, 22, 23, 25, 26, 27, 28, 29);
        due("no WAY over the edge to the next line", over.ways(false), 0);
        due("shortest() over the edge", over.shortest(), NONE);
        due("hole(0, 1, false)", over.hole(0, 1, false), 1);
        due("a WAY down the other edge", over.ways(false), 1);
        due("shortest() down the other edge", over.shortest(), 10);
    }

    /**
     * "SPENT, if there are more than 600000 rows of one step or more from 0, 0 on": of all boards that there are
     * (looked for once, outside of this test) the first has the most rows up to 600000, 599985, and the second the
     * fewest beyond, 600192; so have both, mirrored. Rows that go on behind the goal count, too.
     */
    private static void rowsSpent() {
        int[][] last = {{9, 28, 29}, {19, 28, 34}};
        for (int[] holes : last) {
            WalkGrounds x = Made.board(6, 6, holes);
            Model model = new Model();
            model.board(6, 6);
            for (int hole : holes) {
                model.hole(hole % 6, hole / 6, true);
            }
            due("599985 rows: ways(false)", x.ways(false), model.ways(false));
            due("599985 rows: not SPENT", x.ways(false) >= 0 ? 1 : 0, 1);
            due("599985 rows: ways(true)", x.ways(true), model.ways(true));
            due("599985 rows: waysOf(10)", x.waysOf(10), model.waysOf(10));
        }
        int[][] first = {{4, 13, 31}, {8, 11, 24}};
        for (int[] holes : first) {
            refuses("600192 rows: ways(false)", on(6, 6, holes), x -> x.ways(false), SPENT);
            refuses("600192 rows: ways(true)", on(6, 6, holes), x -> x.ways(true), SPENT);
            refuses("600192 rows: waysOf(10)", on(6, 6, holes), x -> x.waysOf(10), SPENT);
        }
    }

    /** What is SPENT is so as long as THE BOARD is as it is. */
    private static void spentNoMore() {
        WalkGrounds x = Made.board(6, 6, 4, 13);
        due("too many rows", x.ways(false), SPENT);
        due("hole(1, 0, true)", x.hole(1, 0, true), 1);
        due("hole(0, 1, true)", x.hole(0, 1, true), 1);
        due("no rows", x.ways(false), 0);
        due("hole(0, 1, false)", x.hole(0, 1, false), 1);
        due("hole(1, 0, false)", x.hole(1, 0, false), 1);
        due("too many again", x.ways(true), SPENT);
        due("too many of 10", x.waysOf(10), SPENT);
        due("board(3, 3)", x.board(3, 3), 1);
        due("few rows", x.waysOf(4), 6);
        due("board(6, 6)", x.board(6, 6), 1);
        due("too many on 6 by 6", x.waysOf(4), SPENT);
        due("board(7, 6)", x.board(7, 6), BAD);
        due("too many still", x.ways(false), SPENT);
    }

    /** Promise 22: "WAYS by their steps: how many have n. BAD: n below 0" */
    private static void waysOf() {
        int[] none = {0, 1, 3, 4, 5, 34, 35, 36, 37, 60, 1000, MAX - 1, MAX};
        for (int n : none) {
            due("waysOf(" + n + ") on 2 by 2", new WalkGrounds().waysOf(n), 0);
        }
        for (int n : new int[] {MIN, MIN + 1, -36, -2, -1}) {
            refuses("waysOf(" + n + ") on 2 by 2", WalkGrounds::new, x -> x.waysOf(n), BAD);
            refuses("waysOf(" + n + ") on 6 by 6", on(6, 6), x -> x.waysOf(n), BAD);
        }
        WalkGrounds x = Made.board(5, 5);
        Model model = new Model();
        model.board(5, 5);
        long all = 0;
        for (int n = 0; n <= 40; n++) {
            long here = x.waysOf(n);
            all += here;
            due("waysOf(" + n + ") on 5 by 5", here, model.waysOf(n));
        }
        due("waysOf(8) on 5 by 5", x.waysOf(8), 70);
        due("waysOf(24) on 5 by 5, the FULL ones", x.waysOf(24), 104);
        due("all WAYS on 5 by 5", all, x.ways(false));
        // A WAY of 20 steps and none besides.
        WalkGrounds snake = Made.board(6, 6, 6, 7, 8, 9, 10, 19, 20, 21, 22, 23, 30, 31, 32, 33, 34);
        due("waysOf(19) of a snake", snake.waysOf(19), 0);
        due("waysOf(20) of a snake", snake.waysOf(20), 1);
        due("waysOf(21) of a snake", snake.waysOf(21), 0);
    }

    /** "BAD" ahead of "SPENT", and SPENT for every n that is told */
    private static void waysOfSpent() {
        for (int n : new int[] {0, 1, 9, 10, 35, 36, 37, MAX}) {
            refuses("waysOf(" + n + ") on 6 by 6", on(6, 6), x -> x.waysOf(n), SPENT);
        }
        for (int n : new int[] {-1, MIN}) {
            refuses("waysOf(" + n + ") where all is SPENT", on(6, 6), x -> x.waysOf(n), BAD);
        }
    }

    /** Promise 23: "The shortest WAY's steps; NONE: there is none." */
    private static void shortest() {
        for (int w = 2; w <= 6; w++) {
            for (int h = 2; h <= 6; h++) {
                due("shortest() on " + w + " by " + h, Made.board(w, h).shortest(), w + h - 2);
            }
        }
        WalkGrounds snake = Made.board(6, 6, 6, 7, 8, 9, 10, 19, 20, 21, 22, 23, 30, 31, 32, 33, 34);
        due("shortest() of a snake", snake.shortest(), 20);
        WalkGrounds walls = Made.board(5, 5, 1, 6, 11, 16, 23, 18, 13, 8);
        due("shortest() about two walls", walls.shortest(), 16);
        due("its steps alone", walls.waysOf(16), 1);
        due("hole(1, 0, false)", walls.hole(1, 0, false), 1);
        due("shortest() with a gap at the BEGINNING", walls.shortest(), 8);
        due("hole(1, 0, true)", walls.hole(1, 0, true), 1);
        due("shortest() without", walls.shortest(), 16);
        due("hole(0, 4, true)", walls.hole(0, 4, true), 1);
        due("shortest() shut", walls.shortest(), NONE);
    }

    /** Promise 24: "0 WALKS, 1 PLACES of THE BOARD that are no HOLES, 2 its w, 3 its h. BAD." */
    private static void count() {
        for (int wrong : new int[] {MIN, -2, -1, 4, 5, MAX}) {
            refuses("count(" + wrong + ") of a new one", WalkGrounds::new, x -> x.count(wrong), BAD);
            refuses("count(" + wrong + ")", on(4, 3, 5), x -> x.count(wrong), BAD);
        }
        countsAre("a new one", new WalkGrounds(), 0, 4, 2, 2);
        countsAre("16 WALKS", Made.empty(16), 16, 4, 2, 2);
        countsAre("6 by 2, a HOLE", Made.board(6, 2, 3), 0, 11, 6, 2);
        countsAre("2 by 6, two HOLES", Made.board(2, 6, 3, 4), 0, 10, 2, 6);
    }

    private static long hashed(int... values) {
        long h = 107;
        for (int value : values) {
            h = 31 * h + value;
        }
        return h;
    }

    /** Promise 25: each v in its order; without WALKS and HOLES, with all of them, and beyond what a long holds */
    private static void digest() {
        due("a new one", new WalkGrounds().digest(), hashed(0, 4, 2, 2));
        due("a WALK without steps", Made.walk(0).digest(), hashed(1, 4, 2, 2, 0));
        due("another GROUND", Made.walk(3).digest(), hashed(1, 4, 2, 2, 3));
        due("steps of 0", Made.walk(0, 0, 0).digest(), hashed(1, 4, 2, 2, 0, 0, 0));
        due("two WALKS", Made.and(Made.walk(1, 2), 2, 0, 2).digest(), hashed(2, 4, 2, 2, 1, 2, 2, 0, 2));
        due("HOLES on 2 by 6", Made.board(2, 6, 10, 1, 4).digest(), hashed(0, 9, 2, 6, 1, 4, 10));
        due("HOLES on 6 by 2", Made.board(6, 2, 10, 1, 6).digest(), hashed(0, 9, 6, 2, 1, 6, 10));
        int[] holes = new int[34];
        int[] values = new int[38];
        for (int i = 0; i < 34; i++) {
            holes[i] = 34 - i;
            values[4 + i] = i + 1;
        }
        values[1] = 2;
        values[2] = 6;
        values[3] = 6;
        due("34 HOLES", Made.board(6, 6, holes).digest(), hashed(values));
        int[] full = Made.joined(new int[] {1, 4, 2, 2, 3}, Made.times(60, 5));
        due("60 steps", Made.walk(3, Made.times(60, 5)).digest(), hashed(full));
        int[] many = new int[20];
        many[0] = 16;
        many[1] = 4;
        many[2] = 2;
        many[3] = 2;
        for (int i = 0; i < 16; i++) {
            many[4 + i] = i % 4;
        }
        due("16 WALKS", Made.empty(16).digest(), hashed(many));
        WalkGrounds x = Made.and(Made.board(3, 3, 4), 0, 1);
        due("a WALK and a HOLE", x.digest(), hashed(1, 8, 3, 3, 0, 1, 4));
        x.back(0, 1);
        x.hole(1, 1, false);
        due("both gone", x.digest(), hashed(1, 9, 3, 3, 0));
    }
}
