import java.util.ArrayDeque;
import java.util.ArrayList;
import java.util.HashSet;
import java.util.List;
import java.util.Set;

/**
 * The document once more, in the plainest and slowest form and with other means than the class:
 * WALKS are lists of DIRECTIONS, PLACES are lists of three numbers, and nothing is remembered.
 */
final class Model {
    private static final int NONE = -1, BAD = -2, NO = -3, FULL = -4, SPENT = -5;
    private static final String[] ORDERS = {"012", "021", "102", "120", "201", "210"};

    private final List<Integer> grounds = new ArrayList<>();
    private final List<List<Integer>> rows = new ArrayList<>();
    private int w = 2;
    private int h = 2;
    private final Set<Integer> holes = new HashSet<>();

    static int directions(int ground) {
        return new int[] {4, 6, 3, 6}[ground];
    }

    static int turns(int ground) {
        return new int[] {8, 12, 0, 48}[ground];
    }

    private static List<Integer> next(int ground, List<Integer> place, int d) {
        int x = place.get(0);
        int y = place.get(1);
        int z = place.get(2);
        String sign = new String[] {"x+ y+ x- y-", "x+ y+ x-y+ x- y- x+y-", "x+ x- *", "x+ y+ z+ x- y- z-"}[ground]
            .split(" ")[d];
        if (sign.equals("*")) {
            return List.of(x, Math.floorMod(x + y, 2) == 0 ? y + 1 : y - 1, z);
        }
        for (int i = 0; i < sign.length(); i += 2) {
            int way = sign.charAt(i + 1) == '+' ? 1 : -1;
            x += sign.charAt(i) == 'x' ? way : 0;
            y += sign.charAt(i) == 'y' ? way : 0;
            z += sign.charAt(i) == 'z' ? way : 0;
        }
        return List.of(x, y, z);
    }

    static List<List<Integer>> places(int ground, List<Integer> row) {
        List<List<Integer>> all = new ArrayList<>();
        List<Integer> place = List.of(0, 0, 0);
        all.add(place);
        for (int d : row) {
            place = next(ground, place, d);
            all.add(place);
        }
        return all;
    }

    private static boolean isWalk(int ground, List<Integer> row) {
        return new HashSet<>(places(ground, row)).size() == row.size() + 1;
    }

    static int turned(int ground, int t, int d) {
        if (ground == 3) {
            int axis = d % 3;
            boolean minus = d / 3 == 1;
            int now = ORDERS[t / 8].charAt(axis) - '0';
            if (t % 8 / (axis == 0 ? 1 : axis == 1 ? 2 : 4) % 2 == 1) {
                minus = !minus;
            }
            return minus ? now + 3 : now;
        }
        int many = directions(ground);
        return Math.floorMod(t < many ? d + t : t - d, many);
    }

    private static int opposite(int ground, int d) {
        if (ground == 2) {
            return new int[] {1, 0, 2}[d];
        }
        int many = directions(ground);
        return (d + many / 2) % many;
    }

    private static List<Integer> turnedBehind(int ground, List<Integer> row, int k, int t) {
        List<Integer> made = new ArrayList<>(row.subList(0, k));
        for (int d : row.subList(k, row.size())) {
            made.add(turned(ground, t, d));
        }
        return made;
    }

    private static List<Integer> reversed(int ground, List<Integer> row) {
        List<Integer> made = new ArrayList<>();
        for (int d : row) {
            made.add(0, opposite(ground, d));
        }
        return made;
    }

    private static String text(List<Integer> row) {
        StringBuilder made = new StringBuilder();
        for (int d : row) {
            made.append(d);
        }
        return made.toString();
    }

    /** One sign a DIRECTION, so that the least text is the least row. */
    static String formOf(int ground, List<Integer> row) {
        String least = text(row);
        for (int t = 0; t < turns(ground); t++) {
            for (List<Integer> way : List.of(row, reversed(ground, row))) {
                String other = text(turnedBehind(ground, way, 0, t));
                least = other.compareTo(least) < 0 ? other : least;
            }
        }
        return least;
    }

    private boolean has(int walk) {
        return walk >= 0 && walk < rows.size();
    }

    int walk(int ground) {
        if (ground < 0 || ground > 3) {
            return BAD;
        }
        if (rows.size() == 16) {
            return FULL;
        }
        grounds.add(ground);
        rows.add(new ArrayList<>());
        return rows.size() - 1;
    }

    int step(int walk, int d) {
        if (!has(walk) || d < 0 || d >= directions(grounds.get(walk))) {
            return BAD;
        }
        return become(walk, with(rows.get(walk), List.of(d)), true);
    }

    private static List<Integer> with(List<Integer> row, List<Integer> behind) {
        List<Integer> made = new ArrayList<>(row);
        made.addAll(behind);
        return made;
    }

    private int become(int walk, List<Integer> row, boolean answerSize) {
        if (!isWalk(grounds.get(walk), row)) {
            return NO;
        }
        if (row.size() > 60) {
            return FULL;
        }
        rows.set(walk, row);
        return answerSize ? row.size() : 1;
    }

    int back(int walk, int n) {
        if (!has(walk) || n < 0 || n > rows.get(walk).size()) {
            return BAD;
        }
        int left = rows.get(walk).size() - n;
        rows.set(walk, new ArrayList<>(rows.get(walk).subList(0, left)));
        return left;
    }

    int pivot(int walk, int k, int t) {
        if (!has(walk) || k < 0 || k > rows.get(walk).size() || t < 0 || t >= turns(grounds.get(walk))) {
            return BAD;
        }
        return become(walk, turnedBehind(grounds.get(walk), rows.get(walk), k, t), false);
    }

    int join(int walk, int other) {
        if (!has(walk) || !has(other)) {
            return BAD;
        }
        if (!grounds.get(walk).equals(grounds.get(other))) {
            return NO;
        }
        return become(walk, with(rows.get(walk), rows.get(other)), true);
    }

    int turnBack(int walk) {
        if (!has(walk)) {
            return BAD;
        }
        int ground = grounds.get(walk);
        List<List<Integer>> all = places(ground, rows.get(walk));
        List<Integer> last = all.get(all.size() - 1);
        if (ground == 2 && Math.floorMod(last.get(0) + last.get(1), 2) == 1) {
            return NO;
        }
        return become(walk, reversed(ground, rows.get(walk)), true);
    }

    int stepAt(int walk, int i) {
        if (!has(walk) || i < 0) {
            return BAD;
        }
        return i < rows.get(walk).size() ? rows.get(walk).get(i) : NONE;
    }

    int place(int walk, int i, int what) {
        if (!has(walk) || i < 0 || i > rows.get(walk).size() || what < 0 || what > 2) {
            return -1000;
        }
        return places(grounds.get(walk), rows.get(walk)).get(i).get(what);
    }

    int about(int walk, int what) {
        if (!has(walk) || what < 0 || what > 7) {
            return BAD;
        }
        int ground = grounds.get(walk);
        List<Integer> row = rows.get(walk);
        List<List<Integer>> all = places(ground, row);
        switch (what) {
            case 0:
                return ground;
            case 1:
                return row.size();
            case 2:
                return square(ground, all.get(row.size()));
            case 3:
                return isRing(ground, row) ? 1 : 0;
            case 4:
                return isRing(ground, row) && ground != 3 ? area(all) : NONE;
            case 5:
                return bends(row);
            case 6:
                return isBridge(ground, row) ? 1 : 0;
            default:
                int free = 0;
                for (int d = 0; d < directions(ground); d++) {
                    free += isWalk(ground, with(row, List.of(d))) ? 1 : 0;
                }
                return free;
        }
    }

    private static int bends(List<Integer> row) {
        int found = 0;
        for (int i = 1; i < row.size(); i++) {
            found += row.get(i).equals(row.get(i - 1)) ? 0 : 1;
        }
        return found;
    }

    private static int square(int ground, List<Integer> place) {
        int x = place.get(0);
        int y = place.get(1);
        int z = place.get(2);
        return ground == 1 ? x * x + x * y + y * y : x * x + y * y + z * z;
    }

    static boolean isRing(int ground, List<Integer> row) {
        List<List<Integer>> all = places(ground, row);
        boolean beside = false;
        for (int d = 0; d < directions(ground); d++) {
            beside |= next(ground, all.get(row.size()), d).equals(List.of(0, 0, 0));
        }
        return beside && row.size() >= 2;
    }

    private static int area(List<List<Integer>> all) {
        int sum = 0;
        for (int i = 0; i < all.size(); i++) {
            List<Integer> one = all.get(i);
            List<Integer> two = all.get((i + 1) % all.size());
            sum += one.get(0) * two.get(1) - two.get(0) * one.get(1);
        }
        return Math.abs(sum);
    }

    static boolean isBridge(int ground, List<Integer> row) {
        List<List<Integer>> all = places(ground, row);
        int last = all.get(row.size()).get(0);
        for (List<Integer> place : all.subList(1, all.size())) {
            if (place.get(0) <= 0 || place.get(0) > last) {
                return false;
            }
        }
        return true;
    }

    int form(int walk, int i) {
        if (!has(walk) || i < 0) {
            return BAD;
        }
        return i < rows.get(walk).size() ? formOf(grounds.get(walk), rows.get(walk)).charAt(i) - '0' : NONE;
    }

    int alike(int walk, int other) {
        if (!has(walk) || !has(other)) {
            return BAD;
        }
        int ground = grounds.get(walk);
        if (ground != grounds.get(other)) {
            return NO;
        }
        return formOf(ground, rows.get(walk)).equals(formOf(ground, rows.get(other))) ? 1 : 0;
    }

    /** All WALKS of n steps, for small n alone. */
    static List<List<Integer>> allWalks(int ground, int n) {
        List<List<Integer>> all = List.of(List.of());
        for (int i = 0; i < n; i++) {
            List<List<Integer>> longer = new ArrayList<>();
            for (List<Integer> row : all) {
                for (int d = 0; d < directions(ground); d++) {
                    List<Integer> made = with(row, List.of(d));
                    if (isWalk(ground, made)) {
                        longer.add(made);
                    }
                }
            }
            all = longer;
        }
        return all;
    }

    static long squares(int ground, int n) {
        long sum = 0;
        for (List<Integer> row : allWalks(ground, n)) {
            sum += square(ground, places(ground, row).get(n));
        }
        return sum;
    }

    static int rings(int ground, int n) {
        int found = 0;
        for (List<Integer> row : allWalks(ground, n - 1)) {
            found += isRing(ground, row) ? 1 : 0;
        }
        return found;
    }

    static int bridges(int ground, int n) {
        int found = 0;
        for (List<Integer> row : allWalks(ground, n)) {
            found += isBridge(ground, row) ? 1 : 0;
        }
        return found;
    }

    static int forms(int ground, int n) {
        Set<String> found = new HashSet<>();
        for (List<Integer> row : allWalks(ground, n)) {
            found.add(formOf(ground, row));
        }
        return found.size();
    }

    static int reach(int ground, int n) {
        List<Integer> first = new ArrayList<>();
        for (int i = 0; i < n; i++) {
            first.add(0);
        }
        Set<List<Integer>> come = new HashSet<>(Set.of(first));
        ArrayDeque<List<Integer>> open = new ArrayDeque<>(come);
        while (!open.isEmpty()) {
            List<Integer> row = open.remove();
            for (int k = 0; k <= n; k++) {
                for (int t = 0; t < turns(ground); t++) {
                    List<Integer> made = turnedBehind(ground, row, k, t);
                    if (isWalk(ground, made) && come.add(made)) {
                        open.add(made);
                    }
                }
            }
        }
        return come.size();
    }

    int board(int newW, int newH) {
        if (newW < 2 || newW > 6 || newH < 2 || newH > 6) {
            return BAD;
        }
        w = newW;
        h = newH;
        holes.clear();
        return 1;
    }

    int hole(int x, int y, boolean hole) {
        if (x < 0 || x >= w || y < 0 || y >= h) {
            return BAD;
        }
        int place = x + w * y;
        if (place == 0 || place == w * h - 1 || holes.contains(place) == hole) {
            return NO;
        }
        if (hole) {
            holes.add(place);
        } else {
            holes.remove(place);
        }
        return 1;
    }

    private int rowsCounted;
    private final int[] ends = new int[37];

    /** Whether the WAYS are not SPENT; ends tells them by their steps then. */
    private boolean countWays() {
        rowsCounted = 0;
        java.util.Arrays.fill(ends, 0);
        boolean[] come = new boolean[w * h];
        for (int hole : holes) {
            come[hole] = true;
        }
        come[0] = true;
        goOn(come, 0, 0, 0);
        return rowsCounted <= 600000;
    }

    private void goOn(boolean[] come, int x, int y, int steps) {
        if (x == w - 1 && y == h - 1) {
            ends[steps]++;
        }
        for (int d = 0; d < 4 && rowsCounted <= 600000; d++) {
            int nextX = x + (d == 0 ? 1 : d == 1 ? -1 : 0);
            int nextY = y + (d == 2 ? 1 : d == 3 ? -1 : 0);
            if (nextX < 0 || nextX >= w || nextY < 0 || nextY >= h || come[nextX + w * nextY]) {
                continue;
            }
            rowsCounted++;
            come[nextX + w * nextY] = true;
            goOn(come, nextX, nextY, steps + 1);
            come[nextX + w * nextY] = false;
        }
    }

    int ways(boolean full) {
        if (!countWays()) {
            return SPENT;
        }
        int all = 0;
        for (int n : ends) {
            all += n;
        }
        return full ? ends[w * h - holes.size() - 1] : all;
    }

    int waysOf(int n) {
        if (n < 0) {
            return BAD;
        }
        if (!countWays()) {
            return SPENT;
        }
        return n < ends.length ? ends[n] : 0;
    }

    int shortest() {
        int[] far = new int[w * h];
        java.util.Arrays.fill(far, NONE);
        far[0] = 0;
        for (int n = 0; n < w * h; n++) {
            for (int a = 0; a < w * h; a++) {
                for (int b = 0; b < w * h; b++) {
                    int apart = Math.abs(a % w - b % w) + Math.abs(a / w - b / w);
                    if (apart == 1 && far[a] == n && far[b] == NONE && !holes.contains(b)) {
                        far[b] = n + 1;
                    }
                }
            }
        }
        return far[w * h - 1];
    }

    int count(int what) {
        if (what < 0 || what > 3) {
            return BAD;
        }
        return new int[] {rows.size(), w * h - holes.size(), w, h}[what];
    }

    long digest() {
        long hash = 107;
        for (int what = 0; what < 4; what++) {
            hash = 31 * hash + count(what);
        }
        for (int i = 0; i < rows.size(); i++) {
            hash = 31 * hash + grounds.get(i);
            for (int d : rows.get(i)) {
                hash = 31 * hash + d;
            }
        }
        for (int place = 0; place < w * h; place++) {
            if (holes.contains(place)) {
                hash = 31 * hash + place;
            }
        }
        return hash;
    }
}
