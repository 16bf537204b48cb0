import java.util.function.Supplier;
import java.util.function.ToLongFunction;

/**
 * Promises 1 to 12 and the terms GROUNDS and WALKS at their edges: the last value that is still as told and
 * the first that is not, the empty and the full, and each refusal, with nothing changed behind it.
 */
public final class WalkEdgesTest {
    private static final int NONE = -1, BAD = -2, NO = -3, FULL = -4;
    private static final int SQUARES = 0, THIRDS = 1, SIXES = 2, CUBES = 3;
    private static final int MIN = Integer.MIN_VALUE, MAX = Integer.MAX_VALUE;
    private static final int[] DIRECTIONS = {4, 6, 3, 6};
    private static final int[] TURNS = {8, 12, 0, 48};
    // On each GROUND 60 steps that all lead on.
    private static final int[] ONWARD = {0, 1, 0, 5};
    private static final int[] OPPOSITE = {2, 4, 1, 2};
    private static final Due CHECK = new Due();

    public static void main(String[] args) {
        zIsZeroButOnCubes();
        upAndDownOnSixes();
        squaresOfPlaces();
        turnsGoRound();
        newObject();
        walk();
        step();
        stepTwice();
        stepFull();
        back();
        pivotNumbers();
        pivotTwice();
        pivotAtBothEnds();
        join();
        joinTwice();
        joinFull();
        turnBack();
        turnBackOnSixes();
        stepAt();
        place();
        aboutNumbers();
        aboutEmpty();
        aboutFull();
        rings();
        areas();
        bridges();
        bendsAndWaysOn();
        form();
        formIsTheLeast();
        alike();
        noSuchWalk();
        CHECK.end();
    }

    private static void due(String call, long got, long want) {
        CHECK.due(call, got, want);
    }

    private static void refuses(String call, Supplier<WalkGrounds> made, ToLongFunction<WalkGrounds> ask,
            long want) {
        Made.refuses(CHECK, call, made, ask, want);
    }

    private static void stepsAre(String what, WalkGrounds x, int walk, int... steps) {
        due(what + ": how many steps", x.about(walk, 1), steps.length);
        for (int i = 0; i < steps.length; i++) {
            due(what + ": step " + i, x.stepAt(walk, i), steps[i]);
        }
    }

    private static void endIs(String what, WalkGrounds x, int... place) {
        int size = x.about(0, 1);
        for (int i = 0; i < 3; i++) {
            due(what + ": end " + "xyz".charAt(i), x.place(0, size, i), place[i]);
        }
    }

    private static Supplier<WalkGrounds> walks(int ground, int... steps) {
        return () -> Made.walk(ground, steps);
    }

    private static int[] line(int ground, int n) {
        return Made.times(n, ONWARD[ground]);
    }

    // ======== 1 GROUNDS

    /** "z always 0 but on 3" */
    private static void zIsZeroButOnCubes() {
        for (int ground = SQUARES; ground <= SIXES; ground++) {
            for (int d = 0; d < DIRECTIONS[ground]; d++) {
                due("z behind " + d + " on " + ground, Made.walk(ground, d).place(0, 1, 2), 0);
            }
        }
        endIs("CUBES 2", Made.walk(CUBES, 2), 0, 0, 1);
        endIs("CUBES 5", Made.walk(CUBES, 5), 0, 0, -1);
    }

    /** "y + 1 where x + y is even, y - 1 where it is odd", below 0, too */
    private static void upAndDownOnSixes() {
        endIs("from 0, 0", Made.walk(SIXES, 2), 0, 1, 0);
        endIs("from 1, 0", Made.walk(SIXES, 0, 2), 1, -1, 0);
        endIs("from -1, 0", Made.walk(SIXES, 1, 2), -1, -1, 0);
        endIs("from 1, 1", Made.walk(SIXES, 2, 0, 2), 1, 2, 0);
        endIs("from -1, 1", Made.walk(SIXES, 2, 1, 2), -1, 2, 0);
        endIs("from -2, -1", Made.walk(SIXES, 1, 2, 1, 2), -2, -2, 0);
        endIs("from -3, -1", Made.walk(SIXES, 1, 2, 1, 1, 2), -3, 0, 0);
        endIs("from -1, -2 to", Made.walk(SIXES, 1, 2, 1, 2, 0, 2), -1, -3, 0);
    }

    /** "x x + y y + z z; on THIRDS x x + x y + y y" */
    private static void squaresOfPlaces() {
        due("SQUARES -2, -1", Made.walk(SQUARES, 2, 2, 3).about(0, 2), 5);
        due("THIRDS 1, 1", Made.walk(THIRDS, 0, 1).about(0, 2), 3);
        due("THIRDS 2, -1", Made.walk(THIRDS, 0, 5).about(0, 2), 3);
        due("THIRDS -1, 2", Made.walk(THIRDS, 1, 2).about(0, 2), 3);
        due("THIRDS -2, 2", Made.walk(THIRDS, 2, 2).about(0, 2), 4);
        due("THIRDS -1, -1", Made.walk(THIRDS, 3, 4).about(0, 2), 3);
        due("SIXES 1, -1", Made.walk(SIXES, 0, 2).about(0, 2), 2);
        due("CUBES -1, 1, -2", Made.walk(CUBES, 3, 1, 5, 5).about(0, 2), 6);
    }

    /** "by their rests": the TURN of each DIRECTION, the first ones and the last ones that begin anew at 0. */
    private static void turnsGoRound() {
        due("SQUARES 3, turned by 1", turned(SQUARES, 1, 3), 0);
        due("SQUARES 3, turned by 3", turned(SQUARES, 3, 3), 2);
        due("SQUARES 0, turned by 4", turned(SQUARES, 4, 0), 0);
        due("SQUARES 3, turned by 4", turned(SQUARES, 4, 3), 1);
        due("SQUARES 0, turned by 7", turned(SQUARES, 7, 0), 3);
        due("SQUARES 3, turned by 7", turned(SQUARES, 7, 3), 0);
        due("THIRDS 5, turned by 1", turned(THIRDS, 1, 5), 0);
        due("THIRDS 5, turned by 5", turned(THIRDS, 5, 5), 4);
        due("THIRDS 0, turned by 6", turned(THIRDS, 6, 0), 0);
        due("THIRDS 5, turned by 6", turned(THIRDS, 6, 5), 1);
        due("THIRDS 0, turned by 11", turned(THIRDS, 11, 0), 5);
        due("THIRDS 5, turned by 11", turned(THIRDS, 11, 5), 0);
        due("CUBES 5, turned by 7", turned(CUBES, 7, 5), 2);
        due("CUBES 5, turned by 8", turned(CUBES, 8, 5), 4);
        due("CUBES 0, turned by 47", turned(CUBES, 47, 0), 5);
        due("CUBES 5, turned by 47", turned(CUBES, 47, 5), 0);
        for (int ground = SQUARES; ground <= CUBES; ground++) {
            for (int t = 0; t < TURNS[ground]; t++) {
                for (int d = 0; d < DIRECTIONS[ground]; d++) {
                    due("GROUND " + ground + " " + d + " turned by " + t, turned(ground, t, d),
                        Model.turned(ground, t, d));
                }
            }
        }
    }

    private static int turned(int ground, int t, int d) {
        WalkGrounds x = Made.walk(ground, d);
        due("pivot(0, 0, " + t + ") on " + ground, x.pivot(0, 0, t), 1);
        return x.stepAt(0, 0);
    }

    // ======== Promises 1 to 4

    /** Promise 1: "No WALKS; a BOARD of 2 by 2 without HOLES." */
    private static void newObject() {
        for (int what = 0; what < 4; what++) {
            due("count(" + what + ")", new WalkGrounds().count(what), new int[] {0, 4, 2, 2}[what]);
        }
        refuses("hole(1, 0, false) of a new one", WalkGrounds::new, x -> x.hole(1, 0, false), NO);
        refuses("hole(0, 1, false) of a new one", WalkGrounds::new, x -> x.hole(0, 1, false), NO);
        refuses("hole(2, 0, true) of a new one", WalkGrounds::new, x -> x.hole(2, 0, true), BAD);
        refuses("hole(0, 2, true) of a new one", WalkGrounds::new, x -> x.hole(0, 2, true), BAD);
        due("hole(1, 0, true) of a new one", new WalkGrounds().hole(1, 0, true), 1);
        due("hole(0, 1, true) of a new one", new WalkGrounds().hole(0, 1, true), 1);
        due("ways(false) of a new one", new WalkGrounds().ways(false), 2);
        due("ways(true) of a new one", new WalkGrounds().ways(true), 0);
        due("waysOf(2) of a new one", new WalkGrounds().waysOf(2), 2);
        due("shortest() of a new one", new WalkGrounds().shortest(), 2);
        due("digest() of a new one", new WalkGrounds().digest(), (((107L * 31) * 31 + 4) * 31 + 2) * 31 + 2);
    }

    /** Promise 2: "its number. BAD; FULL: 16." */
    private static void walk() {
        for (int ground : new int[] {MIN, -1, 4, 5, MAX}) {
            refuses("walk(" + ground + ") of none", WalkGrounds::new, x -> x.walk(ground), BAD);
            refuses("walk(" + ground + ") of 15", () -> Made.empty(15), x -> x.walk(ground), BAD);
            refuses("walk(" + ground + ") of 16", () -> Made.empty(16), x -> x.walk(ground), BAD);
        }
        for (int ground = SQUARES; ground <= CUBES; ground++) {
            int told = ground;
            due("walk(" + ground + ") of none", new WalkGrounds().walk(ground), 0);
            WalkGrounds x = Made.empty(15);
            due("the 16th on " + ground, x.walk(ground), 15);
            due("its GROUND", x.about(15, 0), ground);
            due("its steps", x.about(15, 1), 0);
            due("a step of it", x.step(15, 0), 1);
            refuses("the 17th on " + ground, () -> Made.empty(16), y -> y.walk(told), FULL);
        }
        WalkGrounds x = Made.empty(16);
        due("back without steps gives no room", x.back(15, 0), 0);
        due("the 17th behind that", x.walk(0), FULL);
    }

    /** Promise 3: "A step more: how many. BAD" */
    private static void step() {
        for (int ground = SQUARES; ground <= CUBES; ground++) {
            int last = DIRECTIONS[ground] - 1;
            due("step(0, 0) on " + ground, Made.walk(ground).step(0, 0), 1);
            due("step(0, " + last + ") on " + ground, Made.walk(ground).step(0, last), 1);
            for (int d : new int[] {MIN, -1, last + 1, last + 2, MAX}) {
                refuses("step(0, " + d + ") on " + ground, walks(ground), x -> x.step(0, d), BAD);
                refuses("step(0, " + d + ") behind one on " + ground, walks(ground, 0), x -> x.step(0, d), BAD);
                refuses("step(0, " + d + ") behind 60 on " + ground, walks(ground, line(ground, 60)),
                    x -> x.step(0, d), BAD);
            }
        }
    }

    /** Promise 3: "NO: it comes to a PLACE twice" */
    private static void stepTwice() {
        for (int ground = SQUARES; ground <= CUBES; ground++) {
            int d = OPPOSITE[ground];
            refuses("a step back on " + ground, walks(ground, line(ground, 1)), x -> x.step(0, d), NO);
            refuses("a step back behind 59 on " + ground, walks(ground, line(ground, 59)), x -> x.step(0, d), NO);
        }
        refuses("SQUARES round to the BEGINNING", walks(SQUARES, 0, 1, 2), x -> x.step(0, 3), NO);
        refuses("SQUARES to the first PLACE", walks(SQUARES, 0, 0, 1, 2), x -> x.step(0, 3), NO);
        refuses("THIRDS round to the BEGINNING", walks(THIRDS, 0, 2), x -> x.step(0, 4), NO);
        refuses("THIRDS to the first PLACE", walks(THIRDS, 0, 0, 2), x -> x.step(0, 4), NO);
        refuses("SIXES round to the BEGINNING", walks(SIXES, 2, 0, 0, 2, 1), x -> x.step(0, 1), NO);
        refuses("SIXES there and back", walks(SIXES, 2), x -> x.step(0, 2), NO);
        refuses("CUBES round to the BEGINNING", walks(CUBES, 0, 2, 3), x -> x.step(0, 5), NO);
        due("CUBES beside the BEGINNING", Made.walk(CUBES, 0, 2, 3).step(0, 1), 4);
        WalkGrounds x = Made.walk(SQUARES, 0, 1, 2);
        due("refused", x.step(0, 3), NO);
        due("another DIRECTION behind that", x.step(0, 1), 4);
        endIs("another DIRECTION behind that", x, 0, 2, 0);
    }

    /** Promise 3: "FULL: 60", and PLACES twice are NO ahead of it */
    private static void stepFull() {
        for (int ground = SQUARES; ground <= CUBES; ground++) {
            WalkGrounds x = Made.walk(ground, line(ground, 59));
            due("the 60th on " + ground, x.step(0, ONWARD[ground]), 60);
            for (int d = 0; d < DIRECTIONS[ground]; d++) {
                int told = d;
                refuses("the 61st, " + d + ", on " + ground, walks(ground, line(ground, 60)),
                    y -> y.step(0, told), d == OPPOSITE[ground] ? NO : FULL);
            }
            due("back(0, 1) on " + ground, x.back(0, 1), 59);
            due("the 60th once more on " + ground, x.step(0, ONWARD[ground]), 60);
            due("the 61st once more on " + ground, x.step(0, ONWARD[ground]), FULL);
        }
        // Another WALK still has room.
        WalkGrounds x = Made.and(Made.walk(SQUARES, line(SQUARES, 60)), SQUARES);
        due("a step of another WALK", x.step(1, 0), 1);
    }

    /** Promise 4: "The last n steps go: how many are left. BAD: it has not so many, n is below 0." */
    private static void back() {
        for (int ground = SQUARES; ground <= CUBES; ground++) {
            for (int size : new int[] {0, 1, 2, 60}) {
                int[] steps = line(ground, size);
                String of = " of " + size + " on " + ground;
                for (int n : new int[] {MIN, -2, -1, size + 1, size + 2, MAX}) {
                    refuses("back(0, " + n + ")" + of, walks(ground, steps), x -> x.back(0, n), BAD);
                }
                due("back(0, 0)" + of, Made.walk(ground, steps).back(0, 0), size);
                WalkGrounds x = Made.walk(ground, steps);
                due("back(0, all)" + of, x.back(0, size), 0);
                stepsAre("back(0, all)" + of, x, 0);
                endIs("back(0, all)" + of, x, 0, 0, 0);
                due("a step behind it" + of, x.step(0, OPPOSITE[ground]), 1);
            }
        }
        WalkGrounds x = Made.walk(SQUARES, 0, 1, 1, 2);
        due("back(0, 3)", x.back(0, 3), 1);
        stepsAre("back(0, 3)", x, 0, 0);
        endIs("back(0, 3)", x, 1, 0, 0);
        due("a PLACE that is gone", x.step(0, 1), 2);
        due("the first PLACE is not gone", x.step(0, 3), NO);
    }

    // ======== Promises 5 to 7

    /** Promise 5: "BAD: k not 0 .. its steps; t, also on SIXES" */
    private static void pivotNumbers() {
        for (int ground : new int[] {SQUARES, THIRDS, CUBES}) {
            int last = TURNS[ground] - 1;
            for (int size : new int[] {0, 1, 60}) {
                int[] steps = line(ground, size);
                String of = " of " + size + " on " + ground;
                for (int k : new int[] {MIN, -1, size + 1, size + 2, MAX}) {
                    refuses("pivot(0, " + k + ", 0)" + of, walks(ground, steps), x -> x.pivot(0, k, 0), BAD);
                }
                for (int t : new int[] {MIN, -1, last + 1, last + 2, MAX}) {
                    refuses("pivot(0, 0, " + t + ")" + of, walks(ground, steps), x -> x.pivot(0, 0, t), BAD);
                    refuses("pivot(0, all, " + t + ")" + of, walks(ground, steps), x -> x.pivot(0, size, t), BAD);
                }
                due("pivot(0, 0, last)" + of, Made.walk(ground, steps).pivot(0, 0, last), 1);
                due("pivot(0, all, last)" + of, Made.walk(ground, steps).pivot(0, size, last), 1);
                due("pivot(0, 0, 0)" + of, Made.walk(ground, steps).pivot(0, 0, 0), 1);
            }
        }
        for (int t : new int[] {MIN, -1, 0, 1, 2, 5, 6, 47, MAX}) {
            for (int size : new int[] {0, 1, 60}) {
                refuses("SIXES pivot(0, 0, " + t + ") of " + size, walks(SIXES, line(SIXES, size)),
                    x -> x.pivot(0, 0, t), BAD);
                refuses("SIXES pivot(0, all, " + t + ") of " + size, walks(SIXES, line(SIXES, size)),
                    x -> x.pivot(0, size, t), BAD);
            }
        }
    }

    /** Promise 5: "NO: it would come to a PLACE twice", and BAD ahead of it */
    private static void pivotTwice() {
        refuses("SQUARES turned back", walks(SQUARES, 0, 0), x -> x.pivot(0, 1, 2), NO);
        refuses("THIRDS turned back", walks(THIRDS, 0, 0), x -> x.pivot(0, 1, 3), NO);
        refuses("CUBES turned back", walks(CUBES, 0, 0), x -> x.pivot(0, 1, 1), NO);
        refuses("the last step to the BEGINNING", walks(SQUARES, 0, 1, 2, 2), x -> x.pivot(0, 3, 1), NO);
        refuses("the last step to the first PLACE", walks(SQUARES, 0, 0, 1, 2, 2), x -> x.pivot(0, 4, 1), NO);
        refuses("60 steps turned back", walks(SQUARES, line(SQUARES, 60)), x -> x.pivot(0, 59, 2), NO);
        // As rests by 8, 12 and 48 these would turn back, too.
        refuses("SQUARES, no TURN", walks(SQUARES, 0, 0), x -> x.pivot(0, 1, 10), BAD);
        refuses("SQUARES, no TURN below 0", walks(SQUARES, 0, 0), x -> x.pivot(0, 1, -6), BAD);
        refuses("THIRDS, no TURN", walks(THIRDS, 0, 0), x -> x.pivot(0, 1, 15), BAD);
        refuses("CUBES, no TURN", walks(CUBES, 0, 0), x -> x.pivot(0, 1, 49), BAD);
        refuses("no PLACE and turned back", walks(SQUARES, 0, 0), x -> x.pivot(0, -1, 2), BAD);
    }

    /** "behind k steps", "all further steps": at k 0 all, at its last PLACE none */
    private static void pivotAtBothEnds() {
        WalkGrounds x = Made.walk(SQUARES, 0, 0, 1);
        due("pivot(0, 3, 2)", x.pivot(0, 3, 2), 1);
        stepsAre("pivot(0, 3, 2)", x, 0, 0, 0, 1);
        due("pivot(0, 2, 2)", x.pivot(0, 2, 2), 1);
        stepsAre("pivot(0, 2, 2)", x, 0, 0, 0, 3);
        endIs("pivot(0, 2, 2)", x, 2, -1, 0);
        due("pivot(0, 0, 2)", x.pivot(0, 0, 2), 1);
        stepsAre("pivot(0, 0, 2)", x, 0, 2, 2, 1);
        endIs("pivot(0, 0, 2)", x, -2, 1, 0);
        WalkGrounds full = Made.walk(SQUARES, line(SQUARES, 60));
        due("60 steps, the last turned", full.pivot(0, 59, 1), 1);
        endIs("60 steps, the last turned", full, 59, 1, 0);
        due("60 steps, all turned", full.pivot(0, 0, 1), 1);
        endIs("60 steps, all turned", full, -1, 59, 0);
        due("still 60 steps", full.about(0, 1), 60);
        WalkGrounds none = Made.walk(CUBES);
        due("pivot(0, 0, 47) of none", none.pivot(0, 0, 47), 1);
        stepsAre("pivot(0, 0, 47) of none", none, 0);
    }

    /** Promise 6: "how many it has. BAD; NO: their GROUNDS differ", BAD first */
    private static void join() {
        for (int ground = SQUARES; ground <= CUBES; ground++) {
            for (int another = SQUARES; another <= CUBES; another++) {
                int[] told = {ground, another};
                Supplier<WalkGrounds> two = () -> Made.and(Made.walk(told[0]), told[1]);
                if (ground == another) {
                    due("join of two without steps on " + ground, two.get().join(0, 1), 0);
                    due("join with itself on " + ground, two.get().join(1, 1), 0);
                } else {
                    refuses("join on " + ground + " and " + another, two, x -> x.join(0, 1), NO);
                    refuses("join with 60 on " + another + " to 60 on " + ground, () -> Made.and(
                        Made.walk(told[0], line(told[0], 60)), told[1], line(told[1], 60)), x -> x.join(0, 1), NO);
                }
            }
        }
        WalkGrounds x = Made.and(Made.walk(SQUARES, 0, 1), SQUARES);
        due("join of none", x.join(0, 1), 2);
        stepsAre("join of none", x, 0, 0, 1);
        due("join to none", x.join(1, 0), 2);
        stepsAre("join to none", x, 1, 0, 1);
        due("join of what is joined", x.join(1, 1), 4);
        stepsAre("join of what is joined", x, 1, 0, 1, 0, 1);
        stepsAre("the other one", x, 0, 0, 1);
        WalkGrounds sixes = Made.and(Made.walk(SIXES, 0), SIXES, 2, 0);
        due("SIXES join as DIRECTIONS", sixes.join(0, 1), 3);
        stepsAre("SIXES join as DIRECTIONS", sixes, 0, 0, 2, 0);
        endIs("SIXES join as DIRECTIONS", sixes, 2, -1, 0);
    }

    /** Promise 6: "or to a PLACE twice" */
    private static void joinTwice() {
        refuses("at the first step", () -> Made.and(Made.walk(SQUARES, 0), SQUARES, 2), x -> x.join(0, 1), NO);
        refuses("at the last step, the BEGINNING", () -> Made.and(Made.walk(SQUARES, 0, 1), SQUARES, 2, 3),
            x -> x.join(0, 1), NO);
        refuses("at the last step, the first PLACE", () -> Made.and(Made.walk(SQUARES, 0, 0, 1), SQUARES, 2, 3),
            x -> x.join(0, 1), NO);
        due("one step less", Made.and(Made.walk(SQUARES, 0, 1), SQUARES, 2).join(0, 1), 3);
        refuses("with itself", () -> Made.walk(SQUARES, 0, 1, 2), x -> x.join(0, 0), NO);
        refuses("THIRDS round", () -> Made.and(Made.walk(THIRDS, 0), THIRDS, 2, 4), x -> x.join(0, 1), NO);
        refuses("SIXES 2 and 2", () -> Made.walk(SIXES, 2), x -> x.join(0, 0), NO);
        refuses("CUBES back", () -> Made.and(Made.walk(CUBES, 5), CUBES, 2), x -> x.join(0, 1), NO);
    }

    /** Promise 6: "FULL", behind BAD and NO */
    private static void joinFull() {
        int[][] fit = {{60, 0}, {59, 1}, {30, 30}, {1, 59}, {0, 60}};
        int[][] over = {{60, 1}, {59, 2}, {30, 31}, {2, 59}, {1, 60}, {60, 60}};
        for (int ground = SQUARES; ground <= CUBES; ground++) {
            int told = ground;
            for (int[] sizes : fit) {
                WalkGrounds x = Made.and(Made.walk(ground, line(ground, sizes[0])), ground, line(ground, sizes[1]));
                due("join of " + sizes[0] + " and " + sizes[1], x.join(0, 1), 60);
                stepsAre("join of " + sizes[0] + " and " + sizes[1], x, 0, line(ground, 60));
                due("the other one", x.about(1, 1), sizes[1]);
            }
            for (int[] sizes : over) {
                refuses("join of " + sizes[0] + " and " + sizes[1] + " on " + ground, () -> Made.and(
                    Made.walk(told, line(told, sizes[0])), told, line(told, sizes[1])), x -> x.join(0, 1), FULL);
            }
            refuses("60 with itself on " + ground, walks(ground, line(ground, 60)), x -> x.join(0, 0), FULL);
            due("30 with itself", Made.walk(ground, line(ground, 30)).join(0, 0), 60);
            refuses("31 with itself on " + ground, walks(ground, line(ground, 31)), x -> x.join(0, 0), FULL);
            refuses("60 and a step back on " + ground, () -> Made.and(
                Made.walk(told, line(told, 60)), told, OPPOSITE[told]), x -> x.join(0, 1), NO);
            refuses("60 and no WALK on " + ground, walks(ground, line(ground, 60)), x -> x.join(0, 1), BAD);
        }
        refuses("twice behind the 60th step", () -> Made.and(Made.walk(SQUARES, line(SQUARES, 59)), SQUARES, 1, 2, 3),
            x -> x.join(0, 1), NO);
        refuses("twice at the 120th step", () -> Made.and(Made.walk(SQUARES, line(SQUARES, 60)), SQUARES,
            Made.joined(Made.joined(new int[] {1}, Made.times(58, 2)), 3)), x -> x.join(0, 1), NO);
        refuses("never twice in 119 steps", () -> Made.and(Made.walk(SQUARES, line(SQUARES, 60)), SQUARES,
            Made.joined(new int[] {1}, Made.times(58, 2))), x -> x.join(0, 1), FULL);
    }

    /** Promise 7: "its steps from the last one on, each opposite: how many" */
    private static void turnBack() {
        int[][] opposite = {{2, 3, 0, 1}, {3, 4, 5, 0, 1, 2}, {}, {3, 4, 5, 0, 1, 2}};
        for (int ground = SQUARES; ground <= CUBES; ground++) {
            due("turnBack of none on " + ground, Made.walk(ground).turnBack(0), 0);
            for (int d = 0; d < opposite[ground].length; d++) {
                WalkGrounds x = Made.walk(ground, d);
                due("turnBack of " + d + " on " + ground, x.turnBack(0), 1);
                due("its step", x.stepAt(0, 0), opposite[ground][d]);
            }
            WalkGrounds full = Made.walk(ground, line(ground, 60));
            due("turnBack of 60 on " + ground, full.turnBack(0), 60);
            stepsAre("turnBack of 60 on " + ground, full, 0, Made.times(60, OPPOSITE[ground]));
            due("twice", full.turnBack(0), 60);
            stepsAre("twice on " + ground, full, 0, line(ground, 60));
        }
        WalkGrounds x = Made.walk(SQUARES, 0, 0, 1, 2);
        due("turnBack(0)", x.turnBack(0), 4);
        stepsAre("turnBack(0)", x, 0, 0, 3, 2, 2);
        endIs("turnBack(0)", x, -1, -1, 0);
        due("a step to where it came from", x.step(0, 0), NO);
    }

    /** Promise 7: "SIXES: 0 and 1 exchanged, 2 stays; NO, if its last PLACE's x + y is odd" */
    private static void turnBackOnSixes() {
        for (int d = 0; d < 3; d++) {
            refuses("SIXES turnBack of " + d, walks(SIXES, d), x -> x.turnBack(0), NO);
        }
        int[][] odd = {{1, 1, 1}, {1, 2, 1}, {2, 1, 2}, {0, 2, 0}, line(SIXES, 59), Made.times(59, 1)};
        for (int[] steps : odd) {
            refuses("SIXES turnBack of " + steps.length, walks(SIXES, steps), x -> x.turnBack(0), NO);
        }
        WalkGrounds right = Made.walk(SIXES, 2, 0);
        due("SIXES turnBack of 2, 0", right.turnBack(0), 2);
        stepsAre("SIXES turnBack of 2, 0", right, 0, 1, 2);
        endIs("SIXES turnBack of 2, 0", right, -1, -1, 0);
        WalkGrounds left = Made.walk(SIXES, 1, 2);
        due("SIXES turnBack of 1, 2", left.turnBack(0), 2);
        stepsAre("SIXES turnBack of 1, 2", left, 0, 2, 0);
        endIs("SIXES turnBack of 1, 2", left, 1, 1, 0);
    }

    // ======== Promises 8 to 12

    /** Promise 8: "Step i. NONE: not so many. BAD." */
    private static void stepAt() {
        for (int ground = SQUARES; ground <= CUBES; ground++) {
            for (int size : new int[] {0, 1, 60}) {
                WalkGrounds x = Made.walk(ground, line(ground, size));
                String of = " of " + size + " on " + ground;
                due("stepAt(0, min)" + of, x.stepAt(0, MIN), BAD);
                due("stepAt(0, -1)" + of, x.stepAt(0, -1), BAD);
                due("stepAt(0, 0)" + of, x.stepAt(0, 0), size == 0 ? NONE : ONWARD[ground]);
                due("stepAt(0, last)" + of, x.stepAt(0, Math.max(0, size - 1)), size == 0 ? NONE : ONWARD[ground]);
                due("stepAt(0, size)" + of, x.stepAt(0, size), NONE);
                due("stepAt(0, size + 1)" + of, x.stepAt(0, size + 1), NONE);
                due("stepAt(0, max)" + of, x.stepAt(0, MAX), NONE);
            }
        }
        WalkGrounds x = Made.walk(THIRDS, 0, 1, 2);
        x.back(0, 1);
        due("stepAt of a step gone", x.stepAt(0, 2), NONE);
        due("stepAt of the last one left", x.stepAt(0, 1), 1);
        due("join behind it", x.join(0, 0), 4);
        due("stepAt(0, 2) now", x.stepAt(0, 2), 0);
    }

    /** Promise 9: "Of its i-th PLACE (0 the BEGINNING): 0 x, 1 y, 2 z. BAD: -1000." */
    private static void place() {
        for (int size : new int[] {0, 1, 60}) {
            for (int d = 0; d < 6; d++) {
                WalkGrounds x = Made.walk(CUBES, Made.times(size, d));
                int far = d < 3 ? size : -size;
                for (int what = 0; what < 3; what++) {
                    due("the BEGINNING", x.place(0, 0, what), 0);
                    due("the last PLACE of " + size, x.place(0, size, what), what == d % 3 ? far : 0);
                    due("a PLACE behind the last of " + size, x.place(0, size + 1, what), -1000);
                    due("a PLACE ahead of the BEGINNING", x.place(0, -1, what), -1000);
                }
            }
            WalkGrounds x = Made.walk(CUBES, Made.times(size, 0));
            for (int wrong : new int[] {MIN, -1, 3, 4, MAX}) {
                due("place(0, 0, " + wrong + ")", x.place(0, 0, wrong), -1000);
                due("place(0, last, " + wrong + ")", x.place(0, size, wrong), -1000);
            }
            due("place(0, min, 0)", x.place(0, MIN, 0), -1000);
            due("place(0, max, 0)", x.place(0, MAX, 0), -1000);
        }
    }

    /** Promise 10: "BAD" */
    private static void aboutNumbers() {
        for (int ground = SQUARES; ground <= CUBES; ground++) {
            for (int size : new int[] {0, 1, 60}) {
                WalkGrounds x = Made.walk(ground, line(ground, size));
                for (int what : new int[] {MIN, -1, 8, 9, MAX}) {
                    due("about(0, " + what + ")", x.about(0, what), BAD);
                }
            }
        }
    }

    private static void aboutIs(String what, WalkGrounds x, int... answers) {
        for (int i = 0; i < 8; i++) {
            due(what + ": about(0, " + i + ")", x.about(0, i), answers[i]);
        }
    }

    /** No RING, no step with another DIRECTION; no PLACE but the BEGINNING, so that it is a BRIDGE. */
    private static void aboutEmpty() {
        for (int ground = SQUARES; ground <= CUBES; ground++) {
            aboutIs("no steps on " + ground, Made.walk(ground), ground, 0, 0, 0, NONE, 0, 1, DIRECTIONS[ground]);
        }
    }

    private static void aboutFull() {
        aboutIs("60 on SQUARES", Made.walk(SQUARES, line(SQUARES, 60)), 0, 60, 3600, 0, NONE, 0, 1, 3);
        aboutIs("60 on THIRDS", Made.walk(THIRDS, line(THIRDS, 60)), 1, 60, 3600, 0, NONE, 0, 0, 5);
        aboutIs("60 on SIXES", Made.walk(SIXES, line(SIXES, 60)), 2, 60, 3600, 0, NONE, 0, 1, 2);
        aboutIs("60 on CUBES", Made.walk(CUBES, line(CUBES, 60)), 3, 60, 3600, 0, NONE, 0, 0, 5);
        int[] stairs = new int[60];
        for (int i = 0; i < 60; i++) {
            stairs[i] = i % 2;
        }
        aboutIs("stairs on SQUARES", Made.walk(SQUARES, stairs), 0, 60, 1800, 0, NONE, 59, 1, 3);
        aboutIs("stairs on THIRDS", Made.walk(THIRDS, stairs), 1, 60, 2700, 0, NONE, 59, 1, 5);
    }

    /** "a WALK of two steps or more the last PLACE of which is a step away from the BEGINNING" */
    private static void rings() {
        for (int ground = SQUARES; ground <= CUBES; ground++) {
            for (int d = 0; d < DIRECTIONS[ground]; d++) {
                WalkGrounds x = Made.walk(ground, d);
                due("one step is no RING, " + d + " on " + ground, x.about(0, 3), 0);
                due("no AREA", x.about(0, 4), NONE);
            }
        }
        for (int d = 0; d < 6; d++) {
            WalkGrounds x = Made.walk(THIRDS, d, (d + 2) % 6);
            due("two steps on THIRDS", x.about(0, 3), 1);
            due("two steps on THIRDS: AREA", x.about(0, 4), 1);
            due("two wide steps on THIRDS", Made.walk(THIRDS, d, (d + 1) % 6).about(0, 3), 0);
            due("two straight steps on THIRDS", Made.walk(THIRDS, d, d).about(0, 3), 0);
        }
        due("two steps on SQUARES", Made.walk(SQUARES, 0, 1).about(0, 3), 0);
        due("three steps on SQUARES", Made.walk(SQUARES, 0, 1, 2).about(0, 3), 1);
        due("four steps on SQUARES", Made.walk(SQUARES, 0, 1, 2, 2).about(0, 3), 0);
        due("three steps on CUBES", Made.walk(CUBES, 2, 0, 5).about(0, 3), 1);
        due("five steps on SIXES", Made.walk(SIXES, 2, 0, 0, 2, 1).about(0, 3), 1);
        due("five steps below on SIXES", Made.walk(SIXES, 0, 2, 1, 1, 2).about(0, 3), 1);
        // 0, -1 lies beside the BEGINNING, but no step leads from one to the other.
        due("three steps on SIXES, to the left", Made.walk(SIXES, 1, 2, 0).about(0, 3), 0);
        due("three steps on SIXES, to the right", Made.walk(SIXES, 0, 2, 1).about(0, 3), 0);
        int[] wide = Made.joined(Made.joined(Made.joined(Made.times(15, 0), Made.times(15, 1)),
            Made.times(15, 2)), Made.times(14, 3));
        due("a RING of 59 steps", Made.walk(SQUARES, wide).about(0, 3), 1);
        due("its AREA", Made.walk(SQUARES, wide).about(0, 4), 450);
        due("none of 60", Made.walk(SQUARES, Made.joined(wide, 0)).about(0, 3), 0);
    }

    /** "the size of the sum", whichever way it goes round; "NONE: no RING, or on CUBES" */
    private static void areas() {
        due("SQUARES, left about", Made.walk(SQUARES, 0, 1, 2).about(0, 4), 2);
        due("SQUARES, right about", Made.walk(SQUARES, 1, 0, 3).about(0, 4), 2);
        due("SQUARES, not at its corner", Made.walk(SQUARES, 0, 1, 2, 2, 3).about(0, 4), 4);
        due("SQUARES, right about, not at its corner", Made.walk(SQUARES, 2, 1, 0, 0, 3).about(0, 4), 4);
        due("THIRDS, right about", Made.walk(THIRDS, 1, 5).about(0, 4), 1);
        due("THIRDS, four PLACES", Made.walk(THIRDS, 0, 1, 3).about(0, 4), 2);
        due("SIXES, left about", Made.walk(SIXES, 0, 0, 2, 1, 1).about(0, 4), 4);
        due("SIXES, right about", Made.walk(SIXES, 2, 0, 0, 2, 1).about(0, 4), 4);
        due("SIXES, left about, below", Made.walk(SIXES, 1, 2, 0, 0, 2).about(0, 4), 4);
        due("CUBES", Made.walk(CUBES, 0, 1, 3).about(0, 4), NONE);
        due("CUBES, no RING", Made.walk(CUBES, 0).about(0, 4), NONE);
        due("SQUARES, no RING", Made.walk(SQUARES, 0, 1).about(0, 4), NONE);
    }

    /** "all PLACES of which, but the BEGINNING, have x above 0 and no more than the last one's" */
    private static void bridges() {
        for (int ground = SQUARES; ground <= CUBES; ground++) {
            due("x 1 on " + ground, Made.walk(ground, 0).about(0, 6), 1);
        }
        due("x 0 at first", Made.walk(SQUARES, 1).about(0, 6), 0);
        due("x 0 at first, then above", Made.walk(SQUARES, 1, 0).about(0, 6), 0);
        due("x -1", Made.walk(SQUARES, 2).about(0, 6), 0);
        due("x 0 later", Made.walk(SQUARES, 0, 1, 2).about(0, 6), 0);
        due("x 0 later, then above", Made.walk(SQUARES, 0, 1, 2, 1, 0, 0).about(0, 6), 0);
        due("x as the last one's", Made.walk(SQUARES, 0, 0, 1, 2, 1, 0).about(0, 6), 1);
        due("x above the last one's", Made.walk(SQUARES, 0, 0, 1, 2, 1).about(0, 6), 0);
        due("x above the last one's by one step", Made.walk(SQUARES, 0, 0, 1, 2).about(0, 6), 0);
        due("THIRDS with x + 1 and y - 1", Made.walk(THIRDS, 5).about(0, 6), 1);
        due("THIRDS with y + 1", Made.walk(THIRDS, 1).about(0, 6), 0);
        due("SIXES up", Made.walk(SIXES, 2).about(0, 6), 0);
        due("SIXES, level", Made.walk(SIXES, 0, 2).about(0, 6), 1);
        due("CUBES up", Made.walk(CUBES, 2).about(0, 6), 0);
        due("CUBES, level", Made.walk(CUBES, 0, 2).about(0, 6), 1);
    }

    /** Promise 10: 5 the steps with another DIRECTION than the one ahead, 7 the DIRECTIONS that lead on */
    private static void bendsAndWaysOn() {
        due("one step", Made.walk(SQUARES, 1).about(0, 5), 0);
        due("two like steps", Made.walk(SQUARES, 1, 1).about(0, 5), 0);
        due("two unlike steps", Made.walk(SQUARES, 1, 0).about(0, 5), 1);
        due("SIXES: 2 with one between", Made.walk(SIXES, 2, 0, 2).about(0, 5), 2);
        due("one of four leads on", Made.walk(SQUARES, 0, 0, 1, 1, 2, 3).about(0, 7), 1);
        due("none of four leads on", Made.walk(SQUARES, 0, 0, 1, 1, 2, 2, 3, 0).about(0, 7), 0);
        due("none of six leads on", Made.walk(THIRDS, 0, 1, 2, 3, 4, 0).about(0, 7), 0);
        due("SIXES in a corner", Made.walk(SIXES, 2, 0, 0, 2, 1).about(0, 7), 1);
        due("all but one on CUBES", Made.walk(CUBES, 0).about(0, 7), 5);
    }

    /** Promise 11: "DIRECTION i of its FORM. NONE: not so many. BAD." */
    private static void form() {
        for (int ground = SQUARES; ground <= CUBES; ground++) {
            for (int size : new int[] {0, 1, 60}) {
                WalkGrounds x = Made.walk(ground, Made.times(size, OPPOSITE[ground]));
                int straight = ground == SIXES ? 1 : 0;
                String of = " of " + size + " on " + ground;
                due("form(0, min)" + of, x.form(0, MIN), BAD);
                due("form(0, -1)" + of, x.form(0, -1), BAD);
                due("form(0, 0)" + of, x.form(0, 0), size == 0 ? NONE : straight);
                due("form(0, last)" + of, x.form(0, Math.max(0, size - 1)), size == 0 ? NONE : straight);
                due("form(0, size)" + of, x.form(0, size), NONE);
                due("form(0, max)" + of, x.form(0, MAX), NONE);
            }
        }
    }

    private static void formIs(int ground, int[] steps, int... due) {
        WalkGrounds x = Made.walk(ground, steps);
        for (int i = 0; i < due.length; i++) {
            due("GROUND " + ground + ": form(0, " + i + ")", x.form(0, i), due[i]);
        }
        stepsAre("behind form", x, 0, steps);
    }

    /** "of all TURNS .., and of it going back .., that row .. which is the least at the first that differs" */
    private static void formIsTheLeast() {
        formIs(SQUARES, new int[] {1, 0, 0}, 0, 0, 1);
        formIs(SQUARES, new int[] {3, 3, 2}, 0, 0, 1);
        // Going back, and by no TURN but the first.
        formIs(SQUARES, new int[] {3, 2, 2}, 0, 0, 1);
        formIs(SQUARES, new int[] {0, 1, 2, 2}, 0, 0, 1, 2);
        formIs(SQUARES, new int[] {2, 3, 2}, 0, 1, 0);
        formIs(THIRDS, new int[] {5, 3}, 0, 2);
        formIs(THIRDS, new int[] {4, 5, 5}, 0, 0, 1);
        formIs(CUBES, new int[] {5, 4, 3}, 0, 1, 2);
        formIs(CUBES, new int[] {4, 2, 4}, 0, 1, 0);
        // SIXES alone, as it is: no least of anything.
        formIs(SIXES, new int[] {1, 1, 2}, 1, 1, 2);
        formIs(SIXES, new int[] {2, 0, 0}, 2, 0, 0);
        // They differ at their very last DIRECTION alone, going back.
        int[] hooked = Made.joined(new int[] {3}, Made.times(59, 0));
        WalkGrounds x = Made.walk(SQUARES, hooked);
        due("58 of a hook", x.form(0, 58), 0);
        due("59 of a hook", x.form(0, 59), 1);
    }

    /** Promise 12: "Whether two WALKS of one GROUND have like FORMS: 1, 0. BAD; NO." */
    private static void alike() {
        for (int ground = SQUARES; ground <= CUBES; ground++) {
            for (int another = SQUARES; another <= CUBES; another++) {
                int[] told = {ground, another};
                Supplier<WalkGrounds> two = () -> Made.and(Made.walk(told[0]), told[1]);
                if (ground == another) {
                    due("alike without steps on " + ground, two.get().alike(0, 1), 1);
                    due("alike with itself on " + ground, two.get().alike(1, 1), 1);
                } else {
                    refuses("alike on " + ground + " and " + another, two, x -> x.alike(0, 1), NO);
                }
            }
            WalkGrounds x = Made.and(Made.and(Made.walk(ground), ground, 0), ground, 0, 0);
            due("none and one step on " + ground, x.alike(0, 1), 0);
            due("one step and none on " + ground, x.alike(1, 0), 0);
            due("one and two steps on " + ground, x.alike(1, 2), 0);
            int[] straight = line(ground, 60);
            int[] bent = Made.joined(line(ground, 59), new int[] {1, 0, 2, 0}[ground]);
            WalkGrounds full = Made.and(Made.and(Made.walk(ground, straight), ground, straight), ground, bent);
            due("60 steps on " + ground, full.alike(0, 1), 1);
            due("60 steps, the last one another, on " + ground, full.alike(0, 2), 0);
        }
        refuses("another GROUND, another length", () -> Made.and(Made.walk(SQUARES, 0), THIRDS), x -> x.alike(0, 1),
            NO);
        WalkGrounds x = Made.and(Made.walk(SIXES, 0, 2), SIXES, 2, 1);
        due("SIXES, one going back", x.alike(0, 1), 0);
        due("SIXES, the first step another", Made.and(Made.walk(SIXES, 0, 2), SIXES, 1, 2).alike(0, 1), 0);
    }

    /** "BAD": no WALK has the number; ahead of NO, of FULL and of NONE */
    private static void noSuchWalk() {
        for (int made : new int[] {0, 1, 15, 16}) {
            for (int none : new int[] {MIN, -1, made, made + 1, 16, 17, MAX}) {
                Supplier<WalkGrounds> some = () -> Made.empty(made);
                String of = " of " + none + " among " + made;
                refuses("step" + of, some, x -> x.step(none, 0), BAD);
                refuses("back" + of, some, x -> x.back(none, 0), BAD);
                refuses("pivot" + of, some, x -> x.pivot(none, 0, 0), BAD);
                refuses("join" + of, some, x -> x.join(none, 0), BAD);
                refuses("join with itself" + of, some, x -> x.join(none, none), BAD);
                refuses("joined" + of, some, x -> x.join(0, none), BAD);
                refuses("turnBack" + of, some, x -> x.turnBack(none), BAD);
                refuses("stepAt" + of, some, x -> x.stepAt(none, 0), BAD);
                refuses("place" + of, some, x -> x.place(none, 0, 0), -1000);
                refuses("about" + of, some, x -> x.about(none, 0), BAD);
                refuses("form" + of, some, x -> x.form(none, 0), BAD);
                refuses("alike" + of, some, x -> x.alike(none, 0), BAD);
                refuses("alike with itself" + of, some, x -> x.alike(none, none), BAD);
                refuses("alike to" + of, some, x -> x.alike(0, none), BAD);
            }
            if (made > 0) {
                due("the last of " + made, Made.empty(made).step(made - 1, 0), 1);
                due("the first of " + made, Made.empty(made).step(0, 0), 1);
            }
        }
    }
}
