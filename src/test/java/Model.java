import java.util.ArrayList;
import java.util.Collections;
import java.util.List;
import java.util.Map;
import java.util.PriorityQueue;
import java.util.TreeMap;

/**
 * The document once more, as slow and as near to its words as can be: stacks are lists that are
 * really turned over, the reach is searched from cell to cell, and every way is really dyed.
 */
final class Model {
    static final int NONE = -1, FULL = -2, STATE = -3, HELD = -4, THICK = -5, TEARS = -6, NEVER = -7, NOT = -8;

    final List<Cloth> cloths = new ArrayList<>();
    final int[] rules = {3, 2, 8};
    Cloth wish = null;
    Way latest = null;

    static final class Bundle {
        int rows, columns;
        List<List<List<Integer>>> stacks = new ArrayList<>();

        static Bundle flat(int rows, int columns) {
            TreeMap<List<Integer>, List<Integer>> places = new TreeMap<>(Model::order);
            for (int r = 0; r < rows; r++) {
                for (int c = 0; c < columns; c++) {
                    places.put(List.of(r, c), List.of(12 * r + c));
                }
            }
            return of(places);
        }

        static Bundle of(Map<List<Integer>, List<Integer>> places) {
            int top = 99, bottom = -99, left = 99, right = -99;
            for (Map.Entry<List<Integer>, List<Integer>> e : places.entrySet()) {
                if (e.getValue().isEmpty()) {
                    continue;
                }
                top = Math.min(top, e.getKey().get(0));
                bottom = Math.max(bottom, e.getKey().get(0));
                left = Math.min(left, e.getKey().get(1));
                right = Math.max(right, e.getKey().get(1));
            }
            Bundle b = new Bundle();
            b.rows = bottom - top + 1;
            b.columns = right - left + 1;
            for (int r = top; r <= bottom; r++) {
                List<List<Integer>> line = new ArrayList<>();
                for (int c = left; c <= right; c++) {
                    line.add(places.getOrDefault(List.of(r, c), List.of()));
                }
                b.stacks.add(line);
            }
            return b;
        }

        List<Integer> at(int r, int c) {
            return r < 0 || c < 0 || r >= rows || c >= columns ? List.of() : stacks.get(r).get(c);
        }

        Bundle folded(int kind, int line, int how) {
            TreeMap<List<Integer>, List<Integer>> places = new TreeMap<>(Model::order);
            for (int r = 0; r < rows; r++) {
                for (int c = 0; c < columns; c++) {
                    boolean comes = kind == 0 ? c >= line : kind == 1 ? r >= line : c > r;
                    if (!comes) {
                        places.put(List.of(r, c), new ArrayList<>(at(r, c)));
                    }
                }
            }
            for (int r = 0; r < rows; r++) {
                for (int c = 0; c < columns; c++) {
                    List<Integer> onto = null;
                    if (kind == 0 && c >= line) {
                        int i = c - line;
                        onto = List.of(r, line - 1 - i);
                    } else if (kind == 1 && r >= line) {
                        int i = r - line;
                        onto = List.of(line - 1 - i, c);
                    } else if (kind == 2 && c > r) {
                        onto = List.of(c, r);
                    }
                    if (onto == null) {
                        continue;
                    }
                    List<Integer> coming = new ArrayList<>(at(r, c));
                    Collections.reverse(coming);
                    List<Integer> there = places.getOrDefault(onto, List.of());
                    List<Integer> joined = new ArrayList<>(how == 0 ? there : coming);
                    joined.addAll(how == 0 ? coming : there);
                    places.put(onto, joined);
                }
            }
            return of(places);
        }

        int thickest() {
            int most = 0;
            for (List<List<Integer>> line : stacks) {
                for (List<Integer> stack : line) {
                    most = Math.max(most, stack.size());
                }
            }
            return most;
        }

        int[] find(int cell) {
            for (int r = 0; r < rows; r++) {
                for (int c = 0; c < columns; c++) {
                    int h = at(r, c).indexOf(cell);
                    if (h >= 0) {
                        return new int[] {r, c, h};
                    }
                }
            }
            throw new IllegalStateException("cell " + cell + " is lost");
        }
    }

    static final class Cloth {
        final int rows, columns;
        final int[] depth = new int[144];
        final int[] dark = new int[144];
        Bundle bundle;
        List<int[]> boards = new ArrayList<>();
        int folds = 0, torn = 0;
        boolean soaked = false;

        Cloth(int rows, int columns) {
            this.rows = rows;
            this.columns = columns;
            bundle = Bundle.flat(rows, columns);
        }

        boolean has(int cell) {
            return cell >= 0 && cell / 12 < rows && cell % 12 < columns;
        }

        List<Integer> cells() {
            List<Integer> all = new ArrayList<>();
            for (int cell = 0; cell < 144; cell++) {
                if (has(cell)) {
                    all.add(cell);
                }
            }
            return all;
        }

        boolean shut(int r, int c) {
            for (int[] b : boards) {
                if (r >= b[0] && r <= b[1] && c >= b[2] && c <= b[3]) {
                    return true;
                }
            }
            return false;
        }
    }

    static final class Way {
        List<int[]> folds = new ArrayList<>();
        int[] board = null;
    }

    static int order(List<Integer> a, List<Integer> b) {
        return a.get(0).equals(b.get(0)) ? a.get(1) - b.get(1) : a.get(0) - b.get(0);
    }

    /** The least minutes by cell number; -7 where dye never comes. */
    int[] reaches(Cloth x) {
        int[] best = new int[144];
        java.util.Arrays.fill(best, NEVER);
        PriorityQueue<int[]> queue = new PriorityQueue<>((a, b) -> a[0] - b[0]);
        Bundle b = x.bundle;
        int[][] sides = {{0, 1}, {1, 0}, {0, -1}, {-1, 0}};
        for (int r = 0; r < b.rows; r++) {
            for (int c = 0; c < b.columns; c++) {
                if (x.shut(r, c)) {
                    continue;
                }
                boolean edge = false;
                for (int[] s : sides) {
                    edge |= b.at(r + s[0], c + s[1]).isEmpty();
                }
                int n = b.at(r, c).size();
                for (int h = 0; h < n; h++) {
                    if (edge || h == 0 || h == n - 1) {
                        queue.add(new int[] {1, r, c, h});
                    }
                }
            }
        }
        while (!queue.isEmpty()) {
            int[] at = queue.poll();
            int r = at[1], c = at[2], h = at[3];
            if (x.shut(r, c) || h < 0 || h >= b.at(r, c).size() || best[b.at(r, c).get(h)] != NEVER) {
                continue;
            }
            best[b.at(r, c).get(h)] = at[0];
            queue.add(new int[] {at[0] + rules[0], r, c, h + 1});
            queue.add(new int[] {at[0] + rules[0], r, c, h - 1});
            for (int[] s : sides) {
                queue.add(new int[] {at[0] + rules[1], r + s[0], c + s[1], h});
            }
        }
        for (int cell = 0; cell < 144; cell++) {
            if (x.soaked && best[cell] != NEVER) {
                best[cell] = best[cell] / 2 + best[cell] % 2;
            }
        }
        return best;
    }

    Cloth get(int n) {
        return n >= 0 && n < cloths.size() ? cloths.get(n) : null;
    }

    int cloth(int rows, int columns) {
        if (rows < 1 || rows > 12 || columns < 1 || columns > 12) {
            return NONE;
        }
        if (cloths.size() == 6) {
            return FULL;
        }
        cloths.add(new Cloth(rows, columns));
        return cloths.size() - 1;
    }

    int rule(int what, int v) {
        if (what < 0 || what > 2 || v < 1 || v > (what == 2 ? 20 : 9)) {
            return NONE;
        }
        int was = rules[what];
        rules[what] = v;
        return was;
    }

    static boolean canFold(Bundle b, int kind, int line) {
        if (kind == 0) {
            return line >= 1 && line <= b.columns - 1;
        }
        if (kind == 1) {
            return line >= 1 && line <= b.rows - 1;
        }
        return kind == 2 && line == 0 && b.rows == b.columns && b.rows != 1;
    }

    int fold(int cloth, int kind, int line, int how) {
        Cloth x = get(cloth);
        if (x == null || kind < 0 || kind > 2 || how < 0 || how > 1) {
            return NONE;
        }
        if (kind == 2 && line != 0 || kind != 2 && !canFold(x.bundle, kind, line)) {
            return NONE;
        }
        if (!canFold(x.bundle, kind, line)) {
            return STATE;
        }
        if (x.folds == 12) {
            return FULL;
        }
        if (!x.boards.isEmpty()) {
            return HELD;
        }
        Bundle then = x.bundle.folded(kind, line, how);
        if (then.thickest() > 24) {
            return THICK;
        }
        if (x.soaked && then.thickest() > 6) {
            x.torn++;
            return TEARS;
        }
        x.bundle = then;
        return ++x.folds;
    }

    int open(int cloth) {
        Cloth x = get(cloth);
        if (x == null) {
            return NONE;
        }
        int had = x.folds;
        x.folds = 0;
        x.boards.clear();
        x.bundle = Bundle.flat(x.rows, x.columns);
        return had;
    }

    int about(int cloth, int what) {
        Cloth x = get(cloth);
        if (x == null || what < 0 || what > 9) {
            return NONE;
        }
        int places = 0;
        for (List<List<Integer>> line : x.bundle.stacks) {
            for (List<Integer> stack : line) {
                places += stack.isEmpty() ? 0 : 1;
            }
        }
        return new int[] {x.rows, x.columns, x.folds, x.bundle.rows, x.bundle.columns, x.bundle.thickest(),
            x.soaked ? 1 : 0, x.torn, x.boards.size(), places}[what];
    }

    int stack(int cloth, int place, int high) {
        Cloth x = get(cloth);
        if (x == null || place < 0 || place / 24 >= x.bundle.rows || place % 24 >= x.bundle.columns || high < 0) {
            return NONE;
        }
        List<Integer> stack = x.bundle.at(place / 24, place % 24);
        return high < stack.size() ? stack.get(high) : NOT;
    }

    int place(int cloth, int cell) {
        Cloth x = get(cloth);
        if (x == null || !x.has(cell)) {
            return NONE;
        }
        int[] at = x.bundle.find(cell);
        return 24 * at[0] + at[1];
    }

    int high(int cloth, int cell) {
        Cloth x = get(cloth);
        return x == null || !x.has(cell) ? NONE : x.bundle.find(cell)[2];
    }

    int board(int cloth, int rows, int columns) {
        Cloth x = get(cloth);
        if (x == null || rows < 0 || columns < 0) {
            return NONE;
        }
        int[] b = {rows / 24, rows % 24, columns / 24, columns % 24};
        if (b[0] > b[1] || b[1] >= x.bundle.rows || b[2] > b[3] || b[3] >= x.bundle.columns) {
            return NONE;
        }
        if (x.boards.size() == 6) {
            return FULL;
        }
        x.boards.add(b);
        return x.boards.size();
    }

    int off(int cloth) {
        Cloth x = get(cloth);
        if (x == null) {
            return NONE;
        }
        int had = x.boards.size();
        x.boards.clear();
        return had;
    }

    int reach(int cloth, int cell) {
        Cloth x = get(cloth);
        return x == null || !x.has(cell) ? NONE : reaches(x)[cell];
    }

    int dip(int cloth, int minutes, int strength, int sign) {
        Cloth x = get(cloth);
        if (x == null || minutes < 1 || minutes > 99 || strength < 1 || strength > 15) {
            return NONE;
        }
        int[] reach = reaches(x);
        int changed = 0;
        for (int cell : x.cells()) {
            if (reach[cell] == NEVER || reach[cell] > minutes) {
                continue;
            }
            int more = strength - (reach[cell] - 1) / rules[2];
            if (more <= 0) {
                continue;
            }
            int then = Math.max(0, Math.min(15, x.depth[cell] + sign * more));
            changed += then == x.depth[cell] ? 0 : 1;
            x.depth[cell] = then;
        }
        x.soaked = true;
        return changed;
    }

    int bath(int cloth, int minutes, int strength) {
        return dip(cloth, minutes, strength, 1);
    }

    int discharge(int cloth, int minutes, int strength) {
        return dip(cloth, minutes, strength, -1);
    }

    int dry(int cloth) {
        Cloth x = get(cloth);
        if (x == null) {
            return NONE;
        }
        int was = x.soaked ? 1 : 0;
        x.soaked = false;
        return was;
    }

    int depth(int cloth, int cell) {
        Cloth x = get(cloth);
        return x == null || !x.has(cell) ? NONE : x.depth[cell];
    }

    int mirrored(int cloth, int kind) {
        Cloth x = get(cloth);
        if (x == null || kind < 0 || kind > 3) {
            return NONE;
        }
        if (kind == 2 && x.rows != x.columns) {
            return STATE;
        }
        for (int cell : x.cells()) {
            int r = cell / 12, c = cell % 12;
            int r2 = kind == 0 ? r : kind == 2 ? c : x.rows - 1 - r;
            int c2 = kind == 1 ? c : kind == 2 ? r : x.columns - 1 - c;
            if (x.depth[cell] != x.depth[12 * r2 + c2]) {
                return 0;
            }
        }
        return 1;
    }

    int period(int cloth, int which) {
        Cloth x = get(cloth);
        if (x == null || which < 0 || which > 1) {
            return NONE;
        }
        for (int p = 1; ; p++) {
            boolean same = true;
            for (int cell : x.cells()) {
                int further = cell + (which == 0 ? p : 12 * p);
                boolean is = which == 0 ? cell % 12 + p < x.columns : cell / 12 + p < x.rows;
                same &= !is || x.depth[cell] == x.depth[further];
            }
            if (same) {
                return p;
            }
        }
    }

    int steps(int cloth, int other) {
        Cloth x = get(cloth), y = get(other);
        if (x == null || y == null) {
            return NONE;
        }
        if (x.rows != y.rows || x.columns != y.columns) {
            return STATE;
        }
        int sum = 0;
        for (int cell : x.cells()) {
            sum += Math.abs(x.depth[cell] - y.depth[cell]);
        }
        return sum;
    }

    int alike(int cloth, int a, int b) {
        Cloth x = get(cloth);
        if (x == null || !x.has(a) || !x.has(b)) {
            return NONE;
        }
        int[] reach = reaches(x);
        return reach[a] == reach[b] ? 1 : 0;
    }

    int wish(int rows, int columns) {
        if (rows < 1 || rows > 4 || columns < 1 || columns > 4) {
            return NONE;
        }
        wish = new Cloth(rows, columns);
        return 1;
    }

    int dark(int cell, int is) {
        if (wish == null || !wish.has(cell) || is < 0 || is > 1) {
            return NONE;
        }
        int was = wish.dark[cell];
        wish.dark[cell] = is;
        return was;
    }

    /** Every fold of a bundle that can be made, in order. */
    static List<int[]> foldsOf(Bundle b) {
        List<int[]> all = new ArrayList<>();
        for (int kind = 0; kind <= 2; kind++) {
            for (int line = 0; line < 12; line++) {
                for (int how = 0; how < 2; how++) {
                    if (canFold(b, kind, line)) {
                        all.add(new int[] {kind, line, how});
                    }
                }
            }
        }
        return all;
    }

    /** Every sequence of just so many folds, in order. */
    static List<List<int[]>> sequences(Cloth small, int folds) {
        List<List<int[]>> all = new ArrayList<>();
        if (folds == 0) {
            all.add(List.of());
            return all;
        }
        for (List<int[]> ahead : sequences(small, folds - 1)) {
            for (int[] last : foldsOf(after(small, ahead))) {
                List<int[]> sequence = new ArrayList<>(ahead);
                sequence.add(last);
                all.add(sequence);
            }
        }
        return all;
    }

    static Bundle after(Cloth small, List<int[]> folds) {
        Bundle b = Bundle.flat(small.rows, small.columns);
        for (int[] f : folds) {
            b = b.folded(f[0], f[1], f[2]);
        }
        return b;
    }

    int differs(Bundle b, int[] board, int minutes, int strength) {
        Cloth small = new Cloth(wish.rows, wish.columns);
        small.bundle = b;
        if (board != null) {
            small.boards.add(board);
        }
        int[] reach = reaches(small);
        int differing = 0;
        for (int cell : small.cells()) {
            boolean dark = reach[cell] != NEVER && reach[cell] <= minutes
                && strength - (reach[cell] - 1) / rules[2] > 0;
            differing += dark == (wish.dark[cell] == 1) ? 0 : 1;
        }
        return differing;
    }

    static List<int[]> boardsOf(Bundle b) {
        List<int[]> all = new ArrayList<>();
        for (int r = 0; r < b.rows; r++) {
            for (int r2 = r; r2 < b.rows; r2++) {
                for (int c = 0; c < b.columns; c++) {
                    for (int c2 = c; c2 < b.columns; c2++) {
                        all.add(new int[] {r, r2, c, c2});
                    }
                }
            }
        }
        return all;
    }

    /** The first way that meets the wish, or null, with the least differing at [0]. */
    Way search(int minutes, int strength, int[] least) {
        least[0] = 99;
        for (int folds = 0; folds <= 2; folds++) {
            for (int boarded = 0; boarded < 2; boarded++) {
                for (List<int[]> sequence : sequences(wish, folds)) {
                    Bundle b = after(wish, sequence);
                    List<int[]> boards = new ArrayList<>();
                    if (boarded == 0) {
                        boards.add(null);
                    } else {
                        boards = boardsOf(b);
                    }
                    for (int[] board : boards) {
                        int differing = differs(b, board, minutes, strength);
                        least[0] = Math.min(least[0], differing);
                        if (differing == 0) {
                            Way found = new Way();
                            found.folds = sequence;
                            found.board = board;
                            return found;
                        }
                    }
                }
            }
        }
        return null;
    }

    int way(int minutes, int strength) {
        if (wish == null || minutes < 1 || minutes > 99 || strength < 1 || strength > 15) {
            return NONE;
        }
        Way found = search(minutes, strength, new int[1]);
        if (found == null) {
            return NOT;
        }
        latest = found;
        return found.folds.size();
    }

    int nearly(int minutes, int strength) {
        if (wish == null || minutes < 1 || minutes > 99 || strength < 1 || strength > 15) {
            return NONE;
        }
        int[] least = new int[1];
        search(minutes, strength, least);
        return least[0];
    }

    int told(int i, int what) {
        if (latest == null || i < 0 || i > 2 || what < 0) {
            return NONE;
        }
        if (i == 2) {
            return latest.board == null || what > 3 ? NONE : latest.board[what];
        }
        return i >= latest.folds.size() || what > 2 ? NONE : latest.folds.get(i)[what];
    }

    int count(int what) {
        int cells = 0, depths = 0, torn = 0, dark = 0;
        for (Cloth x : cloths) {
            torn += x.torn;
            for (int cell : x.cells()) {
                cells++;
                depths += x.depth[cell];
            }
        }
        if (wish != null) {
            for (int cell : wish.cells()) {
                dark += wish.dark[cell];
            }
        }
        return what < 0 || what > 4 ? NONE : new int[] {cloths.size(), cells, depths, torn, dark}[what];
    }
}
