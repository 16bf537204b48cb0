/** Promises 19 to 25: boards with HOLES, WAYS on them, counts and the digest. */
public final class BoardsTest {
    private static final int NONE = -1, BAD = -2, NO = -3, SPENT = -5;
    private static final Due CHECK = new Due();

    public static void main(String[] args) {
        board();
        hole();
        ways();
        waysFull();
        waysSpent();
        waysOf();
        shortest();
        count();
        digest();
        CHECK.end();
    }

    private static void due(String call, long got, long want) {
        CHECK.due(call, got, want);
    }

    private static WalkGrounds with(int w, int h, int... holes) {
        WalkGrounds x = new WalkGrounds();
        due("board(" + w + ", " + h + ")", x.board(w, h), 1);
        for (int hole : holes) {
            due("a HOLE " + hole, x.hole(hole % w, hole / w, true), 1);
        }
        return x;
    }

    private static void board() {
        WalkGrounds x = new WalkGrounds();
        for (int w = -1; w <= 8; w++) {
            for (int h = -1; h <= 8; h++) {
                boolean told = w >= 2 && w <= 6 && h >= 2 && h <= 6;
                due("board(" + w + ", " + h + ")", x.board(w, h), told ? 1 : BAD);
                if (told) {
                    due("count(1)", x.count(1), w * h);
                    due("count(2)", x.count(2), w);
                    due("count(3)", x.count(3), h);
                }
            }
        }
        due("board(max, 2)", x.board(Integer.MAX_VALUE, 2), BAD);
        due("board(2, min)", x.board(2, Integer.MIN_VALUE), BAD);
        due("w behind refused ones", x.count(2), 6);
        x.board(3, 2);
        x.hole(1, 0, true);
        due("a HOLE", x.count(1), 5);
        due("board(3, 2) again", x.board(3, 2), 1);
        due("without HOLES", x.count(1), 6);
        due("WAYS of it", x.ways(false), 4);
    }

    private static void hole() {
        WalkGrounds x = with(3, 4);
        due("hole(-1, 0)", x.hole(-1, 0, true), BAD);
        due("hole(0, -1)", x.hole(0, -1, true), BAD);
        due("hole(3, 0)", x.hole(3, 0, true), BAD);
        due("hole(0, 4)", x.hole(0, 4, false), BAD);
        due("hole(max, max)", x.hole(Integer.MAX_VALUE, Integer.MAX_VALUE, true), BAD);
        due("hole(0, 0, true)", x.hole(0, 0, true), NO);
        due("hole(0, 0, false)", x.hole(0, 0, false), NO);
        due("hole(2, 3, true)", x.hole(2, 3, true), NO);
        due("hole(1, 2, false)", x.hole(1, 2, false), NO);
        due("hole(1, 2, true)", x.hole(1, 2, true), 1);
        due("hole(1, 2, true) again", x.hole(1, 2, true), NO);
        due("count(1)", x.count(1), 11);
        due("hole(1, 2, false)", x.hole(1, 2, false), 1);
        due("count(1)", x.count(1), 12);
        due("hole(2, 0, true), no end of WAYS", x.hole(2, 0, true), 1);
        due("hole(0, 3, true), no end of WAYS", x.hole(0, 3, true), 1);
        due("count(1)", x.count(1), 10);
    }

    private static void ways() {
        // Known numbers of WAYS from corner to corner.
        int[][] known = {{2, 4, 8, 16, 32}, {4, 12, 38, 125, 414}, {8, 38, 184, 976}, {16, 125, 976}, {32, 414}};
        for (int w = 2; w <= 6; w++) {
            for (int h = 2; h - 2 < known[w - 2].length; h++) {
                due("ways(false) on " + w + " by " + h, with(w, h).ways(false), known[w - 2][h - 2]);
            }
        }
        due("about a HOLE", with(3, 3, 4).ways(false), 2);
        due("no WAY", with(3, 3, 1, 3).ways(false), 0);
        WalkGrounds x = with(3, 3);
        due("ways(false)", x.ways(false), 12);
        x.hole(1, 1, true);
        due("ways(false) with a HOLE", x.ways(false), 2);
        x.hole(1, 1, false);
        due("ways(false) without", x.ways(false), 12);
        x.hole(1, 1, false);
        due("ways(false) behind a refused hole", x.ways(false), 12);
    }

    private static void waysFull() {
        due("full on 2 by 2", with(2, 2).ways(true), 0);
        due("full on 3 by 2", with(3, 2).ways(true), 1);
        due("full on 2 by 3", with(2, 3).ways(true), 1);
        due("full on 3 by 3", with(3, 3).ways(true), 2);
        due("full on 3 by 4", with(3, 4).ways(true), 4);
        due("full on 4 by 4", with(4, 4).ways(true), 0);
        due("full on 5 by 3", with(5, 3).ways(true), 8);
        due("full on 4 by 5", with(4, 5).ways(true), 20);
        due("full about a HOLE", with(3, 3, 4).ways(true), 0);
        due("full about HOLES", with(3, 3, 2, 4, 5).ways(true), 0);
        due("full on a line of PLACES", with(3, 3, 1, 2, 4, 5).ways(true), 1);
    }

    /** Rows go on behind the goal: SPENT counts all rows from 0, 0, not only those that end there. */
    private static void waysSpent() {
        WalkGrounds x = with(6, 6);
        due("ways(false) on 6 by 6", x.ways(false), SPENT);
        due("ways(true) on 6 by 6", x.ways(true), SPENT);
        due("waysOf(10) on 6 by 6", x.waysOf(10), SPENT);
        due("waysOf(-1) on 6 by 6", x.waysOf(-1), BAD);
        due("shortest() on 6 by 6", x.shortest(), 10);
        due("board(2, 2)", x.board(2, 2), 1);
        due("ways(false) on 2 by 2", x.ways(false), 2);
        Model model = new Model();
        for (int w = 2; w <= 6; w++) {
            for (int h = 2; h <= 6; h++) {
                x.board(w, h);
                model.board(w, h);
                due("ways(false) on " + w + " by " + h, x.ways(false), model.ways(false));
                due("ways(true) on " + w + " by " + h, x.ways(true), model.ways(true));
            }
        }
    }

    private static void waysOf() {
        WalkGrounds x = with(3, 3);
        int[] known = {0, 0, 0, 0, 6, 0, 4, 0, 2, 0};
        for (int n = 0; n < known.length; n++) {
            due("waysOf(" + n + ")", x.waysOf(n), known[n]);
        }
        due("waysOf(35)", x.waysOf(35), 0);
        due("waysOf(36)", x.waysOf(36), 0);
        due("waysOf(max)", x.waysOf(Integer.MAX_VALUE), 0);
        due("waysOf(-1)", x.waysOf(-1), BAD);
        due("waysOf(min)", x.waysOf(Integer.MIN_VALUE), BAD);
        x.hole(1, 1, true);
        due("waysOf(4) about a HOLE", x.waysOf(4), 2);
        due("waysOf(8) about a HOLE", x.waysOf(8), 0);
    }

    private static void shortest() {
        due("shortest() of a new one", new WalkGrounds().shortest(), 2);
        due("shortest() on 6 by 2", with(6, 2).shortest(), 6);
        due("shortest() shut in", with(3, 3, 1, 3).shortest(), NONE);
        due("shortest() shut out", with(3, 3, 5, 7).shortest(), NONE);
        WalkGrounds wall = with(5, 5, 1, 6, 11, 16, 23, 18, 13, 8);
        due("shortest() about two walls", wall.shortest(), 16);
        due("WAYS about two walls", wall.ways(false), 1);
        WalkGrounds snake = with(6, 6, 6, 7, 8, 9, 10, 19, 20, 21, 22, 23, 30, 31, 32, 33, 34);
        due("shortest() of a snake", snake.shortest(), 20);
        due("WAYS of a snake", snake.ways(false), 1);
        due("full WAYS of a snake", snake.ways(true), 1);
        WalkGrounds edge = with(6, 6, 5);
        due("no way about the edge", edge.shortest(), 10);
    }

    private static void count() {
        WalkGrounds x = with(4, 3, 5);
        x.walk(0);
        x.walk(3);
        due("count(0)", x.count(0), 2);
        due("count(1)", x.count(1), 11);
        due("count(2)", x.count(2), 4);
        due("count(3)", x.count(3), 3);
        due("count(4)", x.count(4), BAD);
        due("count(-1)", x.count(-1), BAD);
        due("count(min)", x.count(Integer.MIN_VALUE), BAD);
    }

    private static void digest() {
        due("digest() of a new one", new WalkGrounds().digest(), hashed(0, 4, 2, 2));
        WalkGrounds x = with(4, 3, 10, 5, 2);
        due("digest() with HOLES", x.digest(), hashed(0, 9, 4, 3, 2, 5, 10));
        x.walk(1);
        x.walk(2);
        x.step(0, 5);
        x.step(0, 4);
        due("digest() with WALKS", x.digest(), hashed(2, 9, 4, 3, 1, 5, 4, 2, 2, 5, 10));
        x.step(1, 9);
        x.hole(1, 1, true);
        x.ways(true);
        x.walks(2, 5);
        due("digest() behind refused calls", x.digest(), hashed(2, 9, 4, 3, 1, 5, 4, 2, 2, 5, 10));
        x.back(0, 1);
        due("digest() behind back", x.digest(), hashed(2, 9, 4, 3, 1, 5, 2, 2, 5, 10));
    }

    private static long hashed(int... values) {
        long h = 107;
        for (int value : values) {
            h = 31 * h + value;
        }
        return h;
    }
}
