/** Promises 1 to 12: a new object, and WALKS laid, turned, joined and told apart. */
public final class WalksTest {
    private static final int NONE = -1, BAD = -2, NO = -3, FULL = -4;
    private static final int[] NO_NUMBERS = {-1, 16, Integer.MAX_VALUE, Integer.MIN_VALUE};
    private static final Due CHECK = new Due();

    public static void main(String[] args) {
        newObject();
        walk();
        step();
        stepFull();
        back();
        pivot();
        turnsListed();
        join();
        joinFull();
        turnBack();
        stepAt();
        place();
        about();
        aboutRings();
        form();
        alike();
        badWalks();
        CHECK.end();
    }

    private static void due(String call, long got, long want) {
        CHECK.due(call, got, want);
    }

    /** An object with one WALK, number 0, of these DIRECTIONS. */
    private static WalkGrounds laid(int ground, int... steps) {
        WalkGrounds x = new WalkGrounds();
        x.walk(ground);
        lay(x, 0, steps);
        return x;
    }

    private static void lay(WalkGrounds x, int walk, int... steps) {
        int before = x.about(walk, 1);
        for (int i = 0; i < steps.length; i++) {
            due("laying step " + i, x.step(walk, steps[i]), before + i + 1);
        }
    }

    private static void stepsAre(String what, WalkGrounds x, int walk, int... steps) {
        due(what + ": how many steps", x.about(walk, 1), steps.length);
        for (int i = 0; i < steps.length; i++) {
            due(what + ": step " + i, x.stepAt(walk, i), steps[i]);
        }
    }

    private static void endIs(String what, WalkGrounds x, int walk, int a, int b, int c) {
        int n = x.about(walk, 1);
        due(what + ": x", x.place(walk, n, 0), a);
        due(what + ": y", x.place(walk, n, 1), b);
        due(what + ": z", x.place(walk, n, 2), c);
    }

    private static void newObject() {
        WalkGrounds x = new WalkGrounds();
        due("new: count(0)", x.count(0), 0);
        due("new: count(1)", x.count(1), 4);
        due("new: count(2)", x.count(2), 2);
        due("new: count(3)", x.count(3), 2);
        due("new: about(0, 0)", x.about(0, 0), BAD);
        due("new: ways(false)", x.ways(false), 2);
        WalkGrounds other = new WalkGrounds();
        other.walk(0);
        due("new: another one's WALKS", x.count(0), 0);
    }

    private static void walk() {
        WalkGrounds x = new WalkGrounds();
        due("walk(-1)", x.walk(-1), BAD);
        due("walk(4)", x.walk(4), BAD);
        for (int i = 0; i < 16; i++) {
            due("walk, number " + i, x.walk(i % 4), i);
            due("its GROUND", x.about(i, 0), i % 4);
            due("its steps", x.about(i, 1), 0);
        }
        due("walk(0), the 17th", x.walk(0), FULL);
        due("walk(4), the 17th", x.walk(4), BAD);
        due("count(0) behind that", x.count(0), 16);
    }

    private static void step() {
        int[] directions = {4, 6, 3, 6};
        int[][][] ends = {
            {{1, 0, 0}, {0, 1, 0}, {-1, 0, 0}, {0, -1, 0}},
            {{1, 0, 0}, {0, 1, 0}, {-1, 1, 0}, {-1, 0, 0}, {0, -1, 0}, {1, -1, 0}},
            {{1, 0, 0}, {-1, 0, 0}, {0, 1, 0}},
            {{1, 0, 0}, {0, 1, 0}, {0, 0, 1}, {-1, 0, 0}, {0, -1, 0}, {0, 0, -1}},
        };
        for (int ground = 0; ground < 4; ground++) {
            for (int d = 0; d < directions[ground]; d++) {
                WalkGrounds x = laid(ground, d);
                int[] end = ends[ground][d];
                endIs("GROUND " + ground + " step " + d, x, 0, end[0], end[1], end[2]);
            }
            WalkGrounds x = laid(ground);
            due("step too high on " + ground, x.step(0, directions[ground]), BAD);
            due("step(0, -1) on " + ground, x.step(0, -1), BAD);
            due("steps behind that", x.about(0, 1), 0);
        }
        WalkGrounds down = laid(2, 0, 2);
        endIs("SIXES 0, 2", down, 0, 1, -1, 0);
        due("SIXES 0, 2, 2", down.step(0, 2), NO);
        endIs("SIXES 0, 2, refused", down, 0, 1, -1, 0);
        WalkGrounds round = laid(0, 0, 1, 2);
        due("step to the BEGINNING", round.step(0, 3), NO);
        due("steps behind that", round.about(0, 1), 3);
        due("step(0, 4) there", round.step(0, 4), BAD);
        due("step back", laid(3, 2).step(0, 5), NO);
        due("step over itself", laid(1, 0, 1, 3).step(0, 4), NO);
    }

    private static void stepFull() {
        WalkGrounds x = laid(0);
        for (int i = 1; i <= 60; i++) {
            due("step " + i, x.step(0, 0), i);
        }
        due("step 61", x.step(0, 0), FULL);
        due("step 61 back", x.step(0, 2), NO);
        due("step 61 of no DIRECTION", x.step(0, 4), BAD);
        due("steps", x.about(0, 1), 60);
        due("SQUARE of the last", x.about(0, 2), 3600);
        due("leads on", x.about(0, 7), 3);
    }

    private static void back() {
        WalkGrounds x = laid(0, 0, 1, 2);
        due("back(0, -1)", x.back(0, -1), BAD);
        due("back(0, 4)", x.back(0, 4), BAD);
        due("back(0, 0)", x.back(0, 0), 3);
        due("back(0, 2)", x.back(0, 2), 1);
        stepsAre("behind back", x, 0, 0);
        due("step to a PLACE left", x.step(0, 1), 2);
        due("back(0, 2) again", x.back(0, 2), 0);
        due("back(0, 1) of none", x.back(0, 1), BAD);
        due("back(0, min)", x.back(0, Integer.MIN_VALUE), BAD);
    }

    private static void pivot() {
        WalkGrounds x = laid(0, 0, 1, 2);
        due("pivot(0, -1, 0)", x.pivot(0, -1, 0), BAD);
        due("pivot(0, 4, 0)", x.pivot(0, 4, 0), BAD);
        due("pivot(0, 0, -1)", x.pivot(0, 0, -1), BAD);
        due("pivot(0, 0, 8)", x.pivot(0, 0, 8), BAD);
        due("pivot(0, 1, 1)", x.pivot(0, 1, 1), NO);
        stepsAre("refused pivot", x, 0, 0, 1, 2);
        due("pivot(0, 3, 5)", x.pivot(0, 3, 5), 1);
        stepsAre("pivot about the end", x, 0, 0, 1, 2);
        due("pivot(0, 2, 3)", x.pivot(0, 2, 3), 1);
        stepsAre("pivot(0, 2, 3)", x, 0, 0, 1, 1);
        endIs("pivot(0, 2, 3)", x, 0, 1, 2, 0);
        due("pivot(0, 0, 1)", x.pivot(0, 0, 1), 1);
        stepsAre("pivot(0, 0, 1)", x, 0, 1, 2, 2);
        WalkGrounds thirds = laid(1, 0, 1);
        due("THIRDS t 12", thirds.pivot(0, 0, 12), BAD);
        due("THIRDS t 11", thirds.pivot(0, 0, 11), 1);
        stepsAre("THIRDS t 11", thirds, 0, 5, 4);
        WalkGrounds sixes = laid(2, 0, 2);
        due("SIXES pivot(0, 0, 0)", sixes.pivot(0, 0, 0), BAD);
        due("SIXES pivot(0, 2, 1)", sixes.pivot(0, 2, 1), BAD);
        WalkGrounds cubes = laid(3, 0, 2);
        due("CUBES t 48", cubes.pivot(0, 0, 48), BAD);
        due("CUBES t 47", cubes.pivot(0, 1, 47), NO);
        due("CUBES t 47 of all", cubes.pivot(0, 0, 47), 1);
        stepsAre("CUBES t 47", cubes, 0, 5, 3);
        due("pivot without steps", laid(0).pivot(0, 0, 7), 1);
        due("pivot(1, 0, 0)", laid(0).pivot(1, 0, 0), BAD);
    }

    /** What some TURNS make of each DIRECTION, written out by hand. */
    private static void turnsListed() {
        int[][] squares = {{0, 1, 2, 3}, {1, 2, 3, 0}, {2, 3, 0, 1}, {3, 0, 1, 2},
            {0, 3, 2, 1}, {1, 0, 3, 2}, {2, 1, 0, 3}, {3, 2, 1, 0}};
        for (int t = 0; t < 8; t++) {
            turnIs(0, t, squares[t]);
        }
        turnIs(1, 1, 1, 2, 3, 4, 5, 0);
        turnIs(1, 5, 5, 0, 1, 2, 3, 4);
        turnIs(1, 6, 0, 5, 4, 3, 2, 1);
        turnIs(1, 8, 2, 1, 0, 5, 4, 3);
        turnIs(3, 0, 0, 1, 2, 3, 4, 5);
        turnIs(3, 1, 3, 1, 2, 0, 4, 5);
        turnIs(3, 6, 0, 4, 5, 3, 1, 2);
        turnIs(3, 8, 0, 2, 1, 3, 5, 4);
        turnIs(3, 16, 1, 0, 2, 4, 3, 5);
        turnIs(3, 24, 1, 2, 0, 4, 5, 3);
        turnIs(3, 25, 4, 2, 0, 1, 5, 3);
        turnIs(3, 32, 2, 0, 1, 5, 3, 4);
        turnIs(3, 34, 2, 3, 1, 5, 0, 4);
        turnIs(3, 40, 2, 1, 0, 5, 4, 3);
    }

    private static void turnIs(int ground, int t, int... directions) {
        for (int d = 0; d < directions.length; d++) {
            WalkGrounds x = laid(ground, d);
            due("pivot(0, 0, " + t + ")", x.pivot(0, 0, t), 1);
            due("GROUND " + ground + " TURN " + t + " of " + d, x.stepAt(0, 0), directions[d]);
        }
    }

    private static void join() {
        WalkGrounds x = laid(0, 0, 1);
        x.walk(0);
        lay(x, 1, 1, 2, 2);
        due("join(0, 1)", x.join(0, 1), 5);
        stepsAre("join(0, 1)", x, 0, 0, 1, 1, 2, 2);
        stepsAre("the other one", x, 1, 1, 2, 2);
        endIs("join(0, 1)", x, 0, -1, 2, 0);
        due("join(0, 2)", x.join(0, 2), BAD);
        due("join(2, 0)", x.join(2, 0), BAD);
        x.walk(1);
        due("join on two GROUNDS", x.join(0, 2), NO);
        x.walk(0);
        lay(x, 3, 3, 3);
        due("join to a PLACE twice", x.join(0, 3), 7);
        due("join to a PLACE twice", x.join(0, 1), NO);
        stepsAre("refused join", x, 0, 0, 1, 1, 2, 2, 3, 3);
        due("join with itself", x.join(1, 1), 6);
        stepsAre("join with itself", x, 1, 1, 2, 2, 1, 2, 2);
        WalkGrounds sixes = laid(2, 0);
        sixes.walk(2);
        lay(sixes, 1, 2, 0);
        due("SIXES join", sixes.join(0, 1), 3);
        stepsAre("SIXES join", sixes, 0, 0, 2, 0);
        endIs("SIXES join", sixes, 0, 2, -1, 0);
        WalkGrounds line = laid(2, 2);
        line.walk(2);
        lay(line, 1, 2);
        due("SIXES there and back", line.join(0, 1), NO);
    }

    private static void joinFull() {
        WalkGrounds x = laid(0);
        x.walk(0);
        for (int i = 0; i < 30; i++) {
            x.step(0, 0);
            x.step(1, 0);
        }
        due("join to 60", x.join(0, 1), 60);
        due("join to 90", x.join(0, 1), FULL);
        due("steps behind that", x.about(0, 1), 60);
        due("join to 120", x.join(0, 0), FULL);
        x.walk(0);
        lay(x, 2, 1, 2, 3);
        due("join to 63 and to a PLACE twice", x.join(0, 2), NO);
        x.walk(0);
        due("join of none to 60", x.join(0, 3), 60);
        x.walk(3);
        due("join to 60 of another GROUND", x.join(0, 4), NO);
        due("join to 60 of no WALK", x.join(0, 5), BAD);
        WalkGrounds late = laid(0);
        late.walk(0);
        for (int i = 0; i < 59; i++) {
            late.step(0, 0);
        }
        lay(late, 1, 1, 2, 3);
        due("join, a PLACE twice behind 60 steps", late.join(0, 1), NO);
        due("steps behind that", late.about(0, 1), 59);
    }

    private static void turnBack() {
        WalkGrounds squares = laid(0, 0, 1, 2);
        due("turnBack(0)", squares.turnBack(0), 3);
        stepsAre("turnBack on SQUARES", squares, 0, 0, 3, 2);
        endIs("turnBack on SQUARES", squares, 0, 0, -1, 0);
        WalkGrounds thirds = laid(1, 0, 1, 5);
        due("turnBack on THIRDS", thirds.turnBack(0), 3);
        stepsAre("turnBack on THIRDS", thirds, 0, 2, 4, 3);
        WalkGrounds cubes = laid(3, 0, 1, 2);
        due("turnBack on CUBES", cubes.turnBack(0), 3);
        stepsAre("turnBack on CUBES", cubes, 0, 5, 4, 3);
        WalkGrounds sixes = laid(2, 0, 2, 0);
        due("turnBack on SIXES, odd", sixes.turnBack(0), NO);
        stepsAre("refused", sixes, 0, 0, 2, 0);
        due("a step more", sixes.step(0, 0), 4);
        due("turnBack on SIXES, even", sixes.turnBack(0), 4);
        stepsAre("turnBack on SIXES", sixes, 0, 1, 1, 2, 1);
        endIs("turnBack on SIXES", sixes, 0, -3, 1, 0);
        due("turnBack of none", laid(2).turnBack(0), 0);
    }

    private static void stepAt() {
        WalkGrounds x = laid(1, 5, 4);
        due("stepAt(0, 0)", x.stepAt(0, 0), 5);
        due("stepAt(0, 1)", x.stepAt(0, 1), 4);
        due("stepAt(0, 2)", x.stepAt(0, 2), NONE);
        due("stepAt(0, 60)", x.stepAt(0, 60), NONE);
        due("stepAt(0, max)", x.stepAt(0, Integer.MAX_VALUE), NONE);
        due("stepAt(0, -1)", x.stepAt(0, -1), BAD);
        due("stepAt(1, 0)", x.stepAt(1, 0), BAD);
    }

    private static void place() {
        WalkGrounds x = laid(3, 0, 0, 4, 2);
        due("place(0, 0, 0)", x.place(0, 0, 0), 0);
        due("place(0, 2, 0)", x.place(0, 2, 0), 2);
        due("place(0, 2, 1)", x.place(0, 2, 1), 0);
        due("place(0, 3, 1)", x.place(0, 3, 1), -1);
        due("place(0, 3, 2)", x.place(0, 3, 2), 0);
        due("place(0, 4, 2)", x.place(0, 4, 2), 1);
        due("place(0, 5, 0)", x.place(0, 5, 0), -1000);
        due("place(0, -1, 0)", x.place(0, -1, 0), -1000);
        due("place(0, 0, 3)", x.place(0, 0, 3), -1000);
        due("place(0, 0, -1)", x.place(0, 0, -1), -1000);
        due("place(1, 0, 0)", x.place(1, 0, 0), -1000);
        x.back(0, 1);
        due("place(0, 4, 2) of a step gone", x.place(0, 4, 2), -1000);
    }

    private static void about() {
        WalkGrounds x = laid(0, 0, 0, 1, 0);
        int[] squares = {0, 4, 10, 0, NONE, 2, 1, 3};
        aboutIs("SQUARES", x, squares);
        aboutIs("THIRDS", laid(1, 0, 1, 1), new int[] {1, 3, 7, 0, NONE, 1, 1, 5});
        aboutIs("SIXES", laid(2, 1, 1, 2, 0), new int[] {2, 4, 2, 0, NONE, 2, 0, 2});
        aboutIs("CUBES", laid(3, 1, 2), new int[] {3, 2, 2, 0, NONE, 1, 0, 5});
        aboutIs("no steps", laid(2), new int[] {2, 0, 0, 0, NONE, 0, 1, 3});
        due("about(0, 8)", x.about(0, 8), BAD);
        due("about(0, -1)", x.about(0, -1), BAD);
        due("about(1, 0)", x.about(1, 0), BAD);
        due("BRIDGE, x behind the last", laid(0, 0, 0, 1, 2).about(0, 6), 0);
        due("BRIDGE, x level", laid(0, 0, 1, 1).about(0, 6), 1);
        due("BRIDGE, x at 0", laid(0, 1, 0).about(0, 6), 0);
        due("BRIDGE, x below 0", laid(0, 2).about(0, 6), 0);
        due("no DIRECTION leads on", laid(0, 0, 0, 1, 1, 2, 2, 3, 0).about(0, 7), 0);
        due("THIRDS at -1, -1", laid(1, 3, 4).about(0, 2), 3);
        due("THIRDS at 1, -1", laid(1, 5).about(0, 2), 1);
    }

    private static void aboutIs(String what, WalkGrounds x, int[] answers) {
        for (int i = 0; i < answers.length; i++) {
            due(what + ": about(0, " + i + ")", x.about(0, i), answers[i]);
        }
    }

    private static void aboutRings() {
        WalkGrounds square = laid(0, 1, 1, 2, 3, 3);
        due("SQUARES: RING", square.about(0, 3), 1);
        due("SQUARES: AREA", square.about(0, 4), 4);
        WalkGrounds one = laid(0, 0);
        due("one step: RING", one.about(0, 3), 0);
        due("one step: AREA", one.about(0, 4), NONE);
        WalkGrounds third = laid(1, 1, 5);
        due("THIRDS: RING", third.about(0, 3), 1);
        due("THIRDS: AREA", third.about(0, 4), 1);
        WalkGrounds six = laid(2, 2, 0, 0, 2, 1);
        due("SIXES: RING", six.about(0, 3), 1);
        due("SIXES: AREA", six.about(0, 4), 4);
        WalkGrounds below = laid(2, 0, 2, 1);
        endIs("SIXES below", below, 0, 0, -1, 0);
        due("SIXES: no step up from 0, -1", below.about(0, 3), 0);
        due("SIXES: AREA there", below.about(0, 4), NONE);
        WalkGrounds cube = laid(3, 0, 1, 3);
        due("CUBES: RING", cube.about(0, 3), 1);
        due("CUBES: AREA", cube.about(0, 4), NONE);
        due("CUBES: RING up", laid(3, 0, 5, 3).about(0, 3), 1);
    }

    private static void form() {
        WalkGrounds x = laid(0, 3, 2, 2);
        int[] due = {0, 0, 1};
        formIs("SQUARES", x, due);
        stepsAre("as it was", x, 0, 3, 2, 2);
        formIs("SQUARES, forward is less", laid(0, 2, 2, 2, 1), new int[] {0, 0, 0, 1});
        formIs("THIRDS", laid(1, 4, 4, 5), new int[] {0, 0, 1});
        formIs("THIRDS, mirrored", laid(1, 1, 5), new int[] {0, 2});
        formIs("SIXES", laid(2, 2, 1, 2), new int[] {2, 1, 2});
        formIs("CUBES", laid(3, 5, 1, 3), new int[] {0, 1, 2});
        formIs("CUBES, backward", laid(3, 0, 1, 2, 2), new int[] {0, 0, 1, 2});
        due("form(0, -1)", x.form(0, -1), BAD);
        due("form(0, 3)", x.form(0, 3), NONE);
        due("form(0, max)", x.form(0, Integer.MAX_VALUE), NONE);
        due("form(1, 0)", x.form(1, 0), BAD);
        due("form of none", laid(3).form(0, 0), NONE);
    }

    private static void formIs(String what, WalkGrounds x, int[] directions) {
        for (int i = 0; i < directions.length; i++) {
            due(what + ": form(0, " + i + ")", x.form(0, i), directions[i]);
        }
        due(what + ": form behind the last", x.form(0, directions.length), NONE);
    }

    private static void alike() {
        WalkGrounds x = laid(0, 0, 0, 1);
        x.walk(0);
        lay(x, 1, 3, 2, 2);
        x.walk(0);
        lay(x, 2, 0, 1, 2);
        x.walk(1);
        lay(x, 3, 0, 0, 1);
        x.walk(0);
        lay(x, 4, 0, 0);
        due("alike(0, 1)", x.alike(0, 1), 1);
        due("alike(1, 0)", x.alike(1, 0), 1);
        due("alike(0, 2)", x.alike(0, 2), 0);
        due("alike(0, 4)", x.alike(0, 4), 0);
        due("alike(0, 0)", x.alike(0, 0), 1);
        due("alike(0, 3)", x.alike(0, 3), NO);
        due("alike(0, 5)", x.alike(0, 5), BAD);
        due("alike(5, 0)", x.alike(5, 0), BAD);
        WalkGrounds sixes = laid(2, 0, 0);
        sixes.walk(2);
        lay(sixes, 1, 1, 1);
        due("SIXES as they are", sixes.alike(0, 1), 0);
        sixes.walk(2);
        lay(sixes, 2, 0, 0);
        due("SIXES, the same steps", sixes.alike(0, 2), 1);
        sixes.back(0, 1);
        sixes.back(1, 1);
        due("SIXES, another first step", sixes.alike(0, 1), 0);
    }

    private static void badWalks() {
        WalkGrounds x = new WalkGrounds();
        for (int i = 0; i < 16; i++) {
            x.walk(0);
        }
        for (int none : NO_NUMBERS) {
            due("step of " + none, x.step(none, 0), BAD);
            due("back of " + none, x.back(none, 0), BAD);
            due("pivot of " + none, x.pivot(none, 0, 0), BAD);
            due("join of " + none, x.join(none, 0), BAD);
            due("join with " + none, x.join(0, none), BAD);
            due("turnBack of " + none, x.turnBack(none), BAD);
            due("stepAt of " + none, x.stepAt(none, 0), BAD);
            due("place of " + none, x.place(none, 0, 0), -1000);
            due("about of " + none, x.about(none, 0), BAD);
            due("form of " + none, x.form(none, 0), BAD);
            due("alike of " + none, x.alike(none, 0), BAD);
            due("alike with " + none, x.alike(0, none), BAD);
        }
    }
}
