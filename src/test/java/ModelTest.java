import java.util.Random;

/** Long runs of calls, drawn with fixed seeds, whose answers must be those of the plain model. */
public final class ModelTest {
    private static final Due CHECK = new Due();
    private static final int[] ODD_NUMBERS = {-1, 61, 1000, Integer.MAX_VALUE, Integer.MIN_VALUE};

    private final Random random;
    private final String run;
    private final WalkGrounds x = new WalkGrounds();
    private final Model model = new Model();
    private boolean mayCountWays = true;

    private ModelTest(int seed) {
        random = new Random(seed);
        run = "seed " + seed + ": ";
    }

    public static void main(String[] args) {
        for (int seed = 1; seed <= 120; seed++) {
            new ModelTest(seed).runOfCalls(seed % 3);
        }
        countedAgainstModel();
        CHECK.end();
    }

    private void due(String call, long got, long want) {
        CHECK.due(run + call, got, want);
    }

    /** A number from 0 up to below most, and now and then one that is out of all bounds. */
    private int number(int most) {
        if (random.nextInt(40) == 0) {
            return ODD_NUMBERS[random.nextInt(ODD_NUMBERS.length)];
        }
        return random.nextInt(most);
    }

    private void runOfCalls(int kind) {
        int grounds = kind == 0 ? 4 : 1 + random.nextInt(4);
        for (int i = 0; i < 3; i++) {
            int ground = grounds == 4 ? random.nextInt(4) : grounds - 1;
            due("walk(" + ground + ")", x.walk(ground), model.walk(ground));
        }
        for (int call = 0; call < 500; call++) {
            if (kind == 2 && random.nextInt(3) == 0) {
                boardCall(random.nextInt(7));
            } else {
                walkCall(random.nextInt(30));
            }
        }
        due("digest() at last", x.digest(), model.digest());
    }

    private void walkCall(int kind) {
        int walk = number(4);
        int other = number(4);
        int d = number(7);
        int i = number(20);
        int t = number(random.nextInt(4) == 0 ? 50 : 12);
        switch (kind) {
            case 0:
                if (random.nextInt(10) == 0) {
                    due("walk(" + d + ")", x.walk(d), model.walk(d));
                }
                break;
            case 1:
                int n = number(4);
                due("back(" + walk + ", " + n + ")", x.back(walk, n), model.back(walk, n));
                break;
            case 2: case 3: case 4: case 5:
                due("pivot(" + walk + ", " + i + ", " + t + ")", x.pivot(walk, i, t), model.pivot(walk, i, t));
                break;
            case 6: case 7:
                due("join(" + walk + ", " + other + ")", x.join(walk, other), model.join(walk, other));
                break;
            case 8: case 9:
                due("turnBack(" + walk + ")", x.turnBack(walk), model.turnBack(walk));
                break;
            case 10:
                due("stepAt(" + walk + ", " + i + ")", x.stepAt(walk, i), model.stepAt(walk, i));
                break;
            case 11:
                due("place(" + walk + ", " + i + ", " + d + ")", x.place(walk, i, d), model.place(walk, i, d));
                break;
            case 12: case 13: case 14:
                for (int what = -1; what <= 8; what++) {
                    due("about(" + walk + ", " + what + ")", x.about(walk, what), model.about(walk, what));
                }
                break;
            case 15: case 16:
                due("form(" + walk + ", " + i + ")", x.form(walk, i), model.form(walk, i));
                break;
            case 17:
                due("alike(" + walk + ", " + other + ")", x.alike(walk, other), model.alike(walk, other));
                break;
            case 18:
                due("digest()", x.digest(), model.digest());
                break;
            default:
                due("step(" + walk + ", " + d + ")", x.step(walk, d), model.step(walk, d));
                break;
        }
    }

    private void boardCall(int kind) {
        int a = number(7);
        int b = number(7);
        boolean yes = random.nextBoolean();
        switch (kind) {
            case 0:
                if (random.nextInt(6) == 0) {
                    due("board(" + a + ", " + b + ")", x.board(a, b), model.board(a, b));
                    // The model is slow: on wide boards WAYS are counted rarely.
                    mayCountWays = model.count(1) <= 20 || random.nextInt(10) == 0;
                }
                break;
            case 1: case 2:
                due("hole(" + a + ", " + b + ", " + yes + ")", x.hole(a, b, yes), model.hole(a, b, yes));
                break;
            case 3:
                if (mayCountWays) {
                    due("ways(" + yes + ")", x.ways(yes), model.ways(yes));
                }
                break;
            case 4:
                int n = number(30);
                if (mayCountWays) {
                    due("waysOf(" + n + ")", x.waysOf(n), model.waysOf(n));
                }
                break;
            case 5:
                due("shortest()", x.shortest(), model.shortest());
                break;
            default:
                due("count(" + a + ")", x.count(a), model.count(a));
                break;
        }
    }

    private static void countedAgainstModel() {
        WalkGrounds x = new WalkGrounds();
        int[] most = {7, 5, 10, 5};
        for (int ground = 0; ground < 4; ground++) {
            for (int n = most[ground]; n >= 0; n--) {
                String with = "(" + ground + ", " + n + ")";
                CHECK.due("walks" + with, x.walks(ground, n), Model.allWalks(ground, n).size());
                CHECK.due("squares" + with, x.squares(ground, n), Model.squares(ground, n));
                if (n >= 3) {
                    CHECK.due("rings" + with, x.rings(ground, n), Model.rings(ground, n));
                }
                if (n >= 1) {
                    CHECK.due("bridges" + with, x.bridges(ground, n), Model.bridges(ground, n));
                }
                if (n <= 7 && Model.allWalks(ground, n).size() <= 3000) {
                    CHECK.due("forms" + with, x.forms(ground, n), Model.forms(ground, n));
                }
                if (n >= 1 && n <= 4 && ground != 2) {
                    CHECK.due("reach" + with, x.reach(ground, n), Model.reach(ground, n));
                }
            }
        }
    }
}
