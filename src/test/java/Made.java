import java.util.function.Supplier;
import java.util.function.ToLongFunction;

/** Objects in a told state, their state as a text, and refusals asked of a fresh object each. */
final class Made {
    private Made() {
    }

    /** An object with one WALK, number 0. */
    static WalkGrounds walk(int ground, int... steps) {
        return and(new WalkGrounds(), ground, steps);
    }

    /** The same object with one WALK more. */
    static WalkGrounds and(WalkGrounds x, int ground, int... steps) {
        int number = x.walk(ground);
        for (int d : steps) {
            x.step(number, d);
        }
        return x;
    }

    /** An object with so many WALKS without steps, on the GROUNDS in turn. */
    static WalkGrounds empty(int howMany) {
        WalkGrounds x = new WalkGrounds();
        for (int i = 0; i < howMany; i++) {
            x.walk(i % 4);
        }
        return x;
    }

    /** An object with a BOARD with HOLES, x + w y each. */
    static WalkGrounds board(int w, int h, int... holes) {
        WalkGrounds x = new WalkGrounds();
        x.board(w, h);
        for (int hole : holes) {
            x.hole(hole % w, hole / w, true);
        }
        return x;
    }

    static int[] times(int n, int d) {
        int[] steps = new int[n];
        java.util.Arrays.fill(steps, d);
        return steps;
    }

    static int[] joined(int[] first, int... second) {
        int[] all = java.util.Arrays.copyOf(first, first.length + second.length);
        System.arraycopy(second, 0, all, first.length, second.length);
        return all;
    }

    /** What the object answers of its WALKS and its BOARD. */
    static String state(WalkGrounds x) {
        StringBuilder told = new StringBuilder();
        for (int number = 0; number < x.count(0); number++) {
            told.append("; walk ").append(number).append(':');
            for (int what = 0; what < 8; what++) {
                told.append(' ').append(x.about(number, what));
            }
            int size = x.about(number, 1);
            told.append(" steps");
            for (int i = 0; i < size; i++) {
                told.append(' ').append(x.stepAt(number, i));
            }
            told.append(" end");
            for (int what = 0; what < 3; what++) {
                told.append(' ').append(x.place(number, size, what));
            }
        }
        told.append("; counts");
        for (int what = 0; what < 4; what++) {
            told.append(' ').append(x.count(what));
        }
        told.append("; ways ").append(x.ways(false)).append(' ').append(x.ways(true));
        told.append("; shortest ").append(x.shortest());
        return told.append("; digest ").append(x.digest()).toString();
    }

    /** A fresh object refuses so, twice, and nothing has changed behind it. */
    static void refuses(Due check, String call, Supplier<WalkGrounds> made, ToLongFunction<WalkGrounds> ask,
            long want) {
        WalkGrounds x = made.get();
        String before = state(x);
        check.due(call, ask.applyAsLong(x), want);
        String after = state(x);
        if (!after.equals(before)) {
            check.fault(call + " was refused, but changed" + before + "\nto" + after);
        }
        check.due(call + " once more", ask.applyAsLong(x), want);
    }
}
