import java.util.Arrays;

/** A dyer's workshop of folded cloth; the project's document says what each call does and answers. */
public final class FoldDye {
    public static final int NONE = -1, FULL = -2, STATE = -3, HELD = -4, THICK = -5, TEARS = -6, NEVER = -7, NOT = -8;

    private static final int MOST_CLOTHS = 6;
    private static final int LONGEST = 12;
    private static final int MOST_CELLS = LONGEST * LONGEST;
    private static final int PLACE_ROW = 24;
    private static final int MOST_FOLDS = 12;
    private static final int MOST_BOARDS = 6;
    private static final int THICKEST = 24;
    private static final int THICKEST_SOAKED = 6;
    private static final int DEEPEST = 15;
    private static final int MOST_MINUTES = 99;
    private static final int STRONGEST = 15;
    private static final int LONGEST_WISH = 4;

    private static final int BY_COLUMNS = 0, BY_ROWS = 1, SLANT = 2, HALF_TURN = 3;
    private static final int VALLEY = 0, MOUNTAIN = 1;

    private static final int LAYER = 0, SIDE = 1, FADE = 2;
    private static final int[] GREATEST_RULE = {9, 9, 20};

    private static final int[] SIDE_ROWS = {-1, 1, 0, 0};
    private static final int[] SIDE_COLUMNS = {0, 0, -1, 1};

    /** Above every sum of minutes, and low enough to add to. */
    private static final int NOT_YET = 1000000;

    private final int[] rules = {3, 2, 8};
    private final Cloth[] cloths = new Cloth[MOST_CLOTHS];
    private int woven = 0;
    private final Seep seep = new Seep();
    private final Wish wanted = new Wish();
    private final Search search = new Search();
    private final Way latest = new Way();

    public FoldDye() {
    }

    public int cloth(int rows, int columns) {
        if (rows < 1 || rows > LONGEST || columns < 1 || columns > LONGEST) {
            return NONE;
        }
        if (woven >= MOST_CLOTHS) {
            return FULL;
        }
        cloths[woven] = new Cloth(rows, columns);
        woven++;
        return woven - 1;
    }

    public int rule(int what, int v) {
        if (what < LAYER || what > FADE || v < 1 || v > GREATEST_RULE[what]) {
            return NONE;
        }
        int was = rules[what];
        rules[what] = v;
        return was;
    }

    public int fold(int cloth, int kind, int line, int how) {
        Cloth folded = clothOf(cloth);
        if (folded == null || how < VALLEY || how > MOUNTAIN || !folded.bundle.hasLine(kind, line)) {
            return NONE;
        }
        if (kind == SLANT && !folded.bundle.canSlant()) {
            return STATE;
        }
        if (folded.folds >= MOST_FOLDS) {
            return FULL;
        }
        if (folded.boards > 0) {
            return HELD;
        }
        int thickness = folded.bundle.thicknessAfter(kind, line);
        if (thickness > THICKEST) {
            return THICK;
        }
        if (folded.soaked && thickness > THICKEST_SOAKED) {
            folded.torn++;
            return TEARS;
        }
        folded.bundle.crease(kind, line, how);
        folded.folds++;
        return folded.folds;
    }

    public int open(int cloth) {
        Cloth opened = clothOf(cloth);
        if (opened == null) {
            return NONE;
        }
        int had = opened.folds;
        opened.folds = 0;
        opened.takeBoardsOff();
        opened.bundle.spread(opened.rows, opened.columns);
        return had;
    }

    public int about(int cloth, int what) {
        Cloth asked = clothOf(cloth);
        if (asked == null) {
            return NONE;
        }
        switch (what) {
            case 0: return asked.rows;
            case 1: return asked.columns;
            case 2: return asked.folds;
            case 3: return asked.bundle.rows;
            case 4: return asked.bundle.columns;
            case 5: return asked.bundle.thickness();
            case 6: return asked.soaked ? 1 : 0;
            case 7: return asked.torn;
            case 8: return asked.boards;
            case 9: return asked.bundle.placesWithCells();
            default: return NONE;
        }
    }

    public int stack(int cloth, int place, int high) {
        Cloth asked = clothOf(cloth);
        if (asked == null || place < 0 || high < 0) {
            return NONE;
        }
        int row = place / PLACE_ROW;
        int column = place % PLACE_ROW;
        if (row >= asked.bundle.rows || column >= asked.bundle.columns) {
            return NONE;
        }
        return asked.cellAt(row, column, high);
    }

    public int place(int cloth, int cell) {
        Cloth asked = clothOf(cloth);
        int index = indexIn(asked, cell);
        if (asked == null || index == NONE) {
            return NONE;
        }
        return asked.bundle.row[index] * PLACE_ROW + asked.bundle.column[index];
    }

    public int high(int cloth, int cell) {
        Cloth asked = clothOf(cloth);
        int index = indexIn(asked, cell);
        if (asked == null || index == NONE) {
            return NONE;
        }
        return asked.bundle.height[index];
    }

    public int board(int cloth, int rows, int columns) {
        Cloth held = clothOf(cloth);
        if (held == null || !isSpan(rows, held.bundle.rows) || !isSpan(columns, held.bundle.columns)) {
            return NONE;
        }
        if (held.boards >= MOST_BOARDS) {
            return FULL;
        }
        for (int row = rows / PLACE_ROW; row <= rows % PLACE_ROW; row++) {
            for (int column = columns / PLACE_ROW; column <= columns % PLACE_ROW; column++) {
                held.shut[row * LONGEST + column] = true;
            }
        }
        held.boards++;
        return held.boards;
    }

    public int off(int cloth) {
        Cloth freed = clothOf(cloth);
        if (freed == null) {
            return NONE;
        }
        int had = freed.boards;
        freed.takeBoardsOff();
        return had;
    }

    public int reach(int cloth, int cell) {
        Cloth asked = clothOf(cloth);
        int index = indexIn(asked, cell);
        if (asked == null || index == NONE) {
            return NONE;
        }
        seep.into(asked, rules[LAYER], rules[SIDE]);
        return reachOf(asked, index);
    }

    public int bath(int cloth, int minutes, int strength) {
        return dip(cloth, minutes, strength, true);
    }

    public int discharge(int cloth, int minutes, int strength) {
        return dip(cloth, minutes, strength, false);
    }

    public int dry(int cloth) {
        Cloth dried = clothOf(cloth);
        if (dried == null) {
            return NONE;
        }
        int was = dried.soaked ? 1 : 0;
        dried.soaked = false;
        return was;
    }

    public int depth(int cloth, int cell) {
        Cloth asked = clothOf(cloth);
        int index = indexIn(asked, cell);
        if (asked == null || index == NONE) {
            return NONE;
        }
        return asked.depths[index];
    }

    public int mirrored(int cloth, int kind) {
        Cloth asked = clothOf(cloth);
        if (asked == null || kind < BY_COLUMNS || kind > HALF_TURN) {
            return NONE;
        }
        if (kind == SLANT && asked.rows != asked.columns) {
            return STATE;
        }
        return asked.isSameTurned(kind) ? 1 : 0;
    }

    public int period(int cloth, int which) {
        Cloth asked = clothOf(cloth);
        if (asked == null || which < BY_COLUMNS || which > BY_ROWS) {
            return NONE;
        }
        int most = which == BY_COLUMNS ? asked.columns : asked.rows;
        int least = 1;
        while (least < most && !asked.repeats(which, least)) {
            least++;
        }
        return least;
    }

    public int steps(int cloth, int other) {
        Cloth one = clothOf(cloth);
        Cloth two = clothOf(other);
        if (one == null || two == null) {
            return NONE;
        }
        if (one.rows != two.rows || one.columns != two.columns) {
            return STATE;
        }
        int sum = 0;
        for (int i = 0; i < one.cells; i++) {
            sum += Math.abs(one.depths[i] - two.depths[i]);
        }
        return sum;
    }

    public int alike(int cloth, int a, int b) {
        Cloth asked = clothOf(cloth);
        int first = indexIn(asked, a);
        int second = indexIn(asked, b);
        if (asked == null || first == NONE || second == NONE) {
            return NONE;
        }
        seep.into(asked, rules[LAYER], rules[SIDE]);
        return reachOf(asked, first) == reachOf(asked, second) ? 1 : 0;
    }

    // ---- wishes

    public int wish(int rows, int columns) {
        if (rows < 1 || rows > LONGEST_WISH || columns < 1 || columns > LONGEST_WISH) {
            return NONE;
        }
        wanted.rows = rows;
        wanted.columns = columns;
        wanted.darkCells = 0;
        return 1;
    }

    public int dark(int cell, int is) {
        int index = indexOf(cell, wanted.rows, wanted.columns);
        if (index == NONE || is < 0 || is > 1) {
            return NONE;
        }
        int was = wanted.darkCells >> index & 1;
        wanted.darkCells = wanted.darkCells & ~(1 << index) | is << index;
        return was;
    }

    public int way(int minutes, int strength) {
        if (!isBath(minutes, strength) || wanted.rows == 0) {
            return NONE;
        }
        if (search.leastDiffering(wanted) > 0) {
            return NOT;
        }
        latest.become(search.tried);
        return latest.folds;
    }

    public int nearly(int minutes, int strength) {
        if (!isBath(minutes, strength) || wanted.rows == 0) {
            return NONE;
        }
        return search.leastDiffering(wanted);
    }

    public int told(int i, int what) {
        if (i < 0 || i > Way.BOARD || what < 0 || what >= Way.FACTS) {
            return NONE;
        }
        return latest.facts[i * Way.FACTS + what];
    }

    public int count(int what) {
        if (what < 0 || what > 4) {
            return NONE;
        }
        if (what == 4) {
            return Integer.bitCount(wanted.darkCells);
        }
        int sum = 0;
        for (int i = 0; i < woven; i++) {
            Cloth counted = clothOf(i);
            sum += counted == null ? 0 : counted.shareOf(what);
        }
        return sum;
    }

    private Cloth clothOf(int number) {
        return number < 0 || number >= woven ? null : cloths[number];
    }

    private static int indexIn(Cloth cloth, int cell) {
        return cloth == null ? NONE : indexOf(cell, cloth.rows, cloth.columns);
    }

    /** The cells of a cloth counted row by row: what all arrays of cells go by. */
    private static int indexOf(int cell, int rows, int columns) {
        int row = cell / LONGEST;
        int column = cell % LONGEST;
        if (cell < 0 || row >= rows || column >= columns) {
            return NONE;
        }
        return row * columns + column;
    }

    private static boolean isSpan(int span, int length) {
        return span >= 0 && span / PLACE_ROW <= span % PLACE_ROW && span % PLACE_ROW < length;
    }

    private static boolean isBath(int minutes, int strength) {
        return minutes >= 1 && minutes <= MOST_MINUTES && strength >= 1 && strength <= STRONGEST;
    }

    private int dip(int cloth, int minutes, int strength, boolean deepens) {
        Cloth dipped = clothOf(cloth);
        if (dipped == null || !isBath(minutes, strength)) {
            return NONE;
        }
        seep.into(dipped, rules[LAYER], rules[SIDE]);
        int changed = 0;
        for (int i = 0; i < dipped.cells; i++) {
            int dye = dyeAfter(reachOf(dipped, i), minutes, strength);
            int was = dipped.depths[i];
            int is = deepens ? Math.min(DEEPEST, was + dye) : Math.max(0, was - dye);
            dipped.depths[i] = is;
            if (is != was) {
                changed++;
            }
        }
        dipped.soaked = true;
        return changed;
    }

    /** The rule FADE, which divides here, is never below 1: rule() refuses less. */
    private int dyeAfter(int reach, int minutes, int strength) {
        if (reach == NEVER || reach > minutes) {
            return 0;
        }
        return Math.max(0, strength - (reach - 1) / rules[FADE]);
    }

    /** Only after the dye has been let seep into the cloth. */
    private int reachOf(Cloth cloth, int index) {
        Bundle bundle = cloth.bundle;
        int minutes = seep.minutesAt(bundle, bundle.row[index], bundle.column[index], bundle.height[index]);
        if (minutes >= NOT_YET) {
            return NEVER;
        }
        return cloth.soaked ? (minutes + 1) / 2 : minutes;
    }

    private static final class Cloth {
        final int rows;
        final int columns;
        final int cells;
        final int[] depths;
        final boolean[] shut;
        final Bundle bundle;
        int folds = 0;
        int boards = 0;
        int torn = 0;
        boolean soaked = false;

        Cloth(int rows, int columns) {
            this.rows = rows;
            this.columns = columns;
            cells = rows * columns;
            depths = new int[cells];
            shut = new boolean[rows * LONGEST];
            bundle = new Bundle(rows, columns);
            bundle.spread(rows, columns);
        }

        void takeBoardsOff() {
            boards = 0;
            for (int i = 0; i < shut.length; i++) {
                shut[i] = false;
            }
        }

        int cellAt(int placeRow, int placeColumn, int height) {
            for (int row = 0; row < rows; row++) {
                for (int column = 0; column < columns; column++) {
                    if (bundle.isAt(row * columns + column, placeRow, placeColumn, height)) {
                        return row * LONGEST + column;
                    }
                }
            }
            return NOT;
        }

        int shareOf(int count) {
            switch (count) {
                case 0: return 1;
                case 1: return cells;
                case 2: return depthInAll();
                default: return torn;
            }
        }

        private int depthInAll() {
            int sum = 0;
            for (int i = 0; i < cells; i++) {
                sum += depths[i];
            }
            return sum;
        }

        boolean isSameTurned(int kind) {
            for (int row = 0; row < rows; row++) {
                for (int column = 0; column < columns; column++) {
                    if (depths[row * columns + column] != depths[turnedIndex(kind, row, column)]) {
                        return false;
                    }
                }
            }
            return true;
        }

        /** A slant is asked of square cloths alone. */
        private int turnedIndex(int kind, int row, int column) {
            switch (kind) {
                case BY_COLUMNS: return row * columns + columns - 1 - column;
                case BY_ROWS: return (rows - 1 - row) * columns + column;
                case SLANT: return column * columns + row;
                default: return cells - 1 - (row * columns + column);
            }
        }

        boolean repeats(int which, int period) {
            int down = which == BY_ROWS ? period : 0;
            int along = which == BY_COLUMNS ? period : 0;
            for (int row = 0; row + down < rows; row++) {
                for (int column = 0; column + along < columns; column++) {
                    if (depths[row * columns + column] != depths[(row + down) * columns + column + along]) {
                        return false;
                    }
                }
            }
            return true;
        }
    }

    /**
     * Where each cell lies. A fold never makes a bundle longer or wider than it was, so the rows
     * and columns of the open cloth are room enough for its places.
     */
    private static final class Bundle {
        final int[] row;
        final int[] column;
        final int[] height;
        final int[] sizes;
        int cells = 0;
        int rows = 0;
        int columns = 0;

        Bundle(int mostRows, int mostColumns) {
            row = new int[mostRows * mostColumns];
            column = new int[mostRows * mostColumns];
            height = new int[mostRows * mostColumns];
            sizes = new int[mostRows * LONGEST];
        }

        void spread(int openRows, int openColumns) {
            rows = openRows;
            columns = openColumns;
            cells = rows * columns;
            for (int r = 0; r < rows; r++) {
                for (int c = 0; c < columns; c++) {
                    row[r * columns + c] = r;
                    column[r * columns + c] = c;
                    height[r * columns + c] = 0;
                }
            }
            countSizes();
        }

        /** Both bundles must have been made for the same rows and columns. */
        void become(Bundle other) {
            rows = other.rows;
            columns = other.columns;
            cells = other.cells;
            System.arraycopy(other.row, 0, row, 0, cells);
            System.arraycopy(other.column, 0, column, 0, cells);
            System.arraycopy(other.height, 0, height, 0, cells);
            System.arraycopy(other.sizes, 0, sizes, 0, sizes.length);
        }

        boolean isAt(int index, int placeRow, int placeColumn, int high) {
            return row[index] == placeRow && column[index] == placeColumn && height[index] == high;
        }

        int sizeAt(int r, int c) {
            return r < 0 || r >= rows || c < 0 || c >= columns ? 0 : sizes[r * LONGEST + c];
        }

        boolean hasBareSide(int r, int c) {
            for (int side = 0; side < SIDE_ROWS.length; side++) {
                if (sizeAt(r + SIDE_ROWS[side], c + SIDE_COLUMNS[side]) == 0) {
                    return true;
                }
            }
            return false;
        }

        int thickness() {
            int most = 0;
            for (int i = 0; i < sizes.length; i++) {
                most = Math.max(most, sizes[i]);
            }
            return most;
        }

        int placesWithCells() {
            int places = 0;
            for (int i = 0; i < sizes.length; i++) {
                if (sizes[i] > 0) {
                    places++;
                }
            }
            return places;
        }

        boolean hasLine(int kind, int line) {
            switch (kind) {
                case BY_COLUMNS: return line >= 1 && line < columns;
                case BY_ROWS: return line >= 1 && line < rows;
                case SLANT: return line == 0;
                default: return false;
            }
        }

        boolean canSlant() {
            return rows == columns && rows > 1;
        }

        int thicknessAfter(int kind, int line) {
            int most = 0;
            for (int r = 0; r < rows; r++) {
                for (int c = 0; c < columns; c++) {
                    most = Math.max(most, sizeAt(r, c) + matesOf(kind, line, r, c));
                }
            }
            return most;
        }

        void crease(int kind, int line, int how) {
            for (int i = 0; i < cells; i++) {
                int r = row[i];
                int c = column[i];
                int mates = matesOf(kind, line, r, c);
                if (comes(kind, line, r, c)) {
                    int turned = sizeAt(r, c) - 1 - height[i];
                    height[i] = how == VALLEY ? mates + turned : turned;
                    row[i] = rowAcross(kind, line, r, c);
                    column[i] = columnAcross(kind, line, r, c);
                } else if (how == MOUNTAIN) {
                    height[i] += mates;
                }
            }
            trim();
            countSizes();
        }

        /** How many cells the fold lays together with those of a place. */
        private int matesOf(int kind, int line, int r, int c) {
            boolean onTheSlant = kind == SLANT && r == c;
            return onTheSlant ? 0 : sizeAt(rowAcross(kind, line, r, c), columnAcross(kind, line, r, c));
        }

        private static boolean comes(int kind, int line, int r, int c) {
            return kind == BY_COLUMNS ? c >= line : kind == BY_ROWS ? r >= line : c > r;
        }

        private static int rowAcross(int kind, int line, int r, int c) {
            return kind == BY_COLUMNS ? r : kind == BY_ROWS ? 2 * line - 1 - r : c;
        }

        private static int columnAcross(int kind, int line, int r, int c) {
            return kind == BY_COLUMNS ? 2 * line - 1 - c : kind == BY_ROWS ? c : r;
        }

        /** A fold may have put cells ahead of row or column 0, or left the first ones without any. */
        private void trim() {
            int top = NOT_YET;
            int bottom = -NOT_YET;
            int left = NOT_YET;
            int right = -NOT_YET;
            for (int i = 0; i < cells; i++) {
                top = Math.min(top, row[i]);
                bottom = Math.max(bottom, row[i]);
                left = Math.min(left, column[i]);
                right = Math.max(right, column[i]);
            }
            for (int i = 0; i < cells; i++) {
                row[i] -= top;
                column[i] -= left;
            }
            rows = bottom - top + 1;
            columns = right - left + 1;
        }

        private void countSizes() {
            Arrays.fill(sizes, 0);
            for (int i = 0; i < cells; i++) {
                sizes[row[i] * LONGEST + column[i]]++;
            }
        }
    }

    /** The minutes that dye needs to the cells of a cloth: one room for all cloths, filled anew for each call. */
    private static final class Seep {
        private final int[] starts = new int[MOST_CELLS];
        private final int[] minutes = new int[MOST_CELLS];
        private int layer = 1;
        private int side = 1;

        void into(Cloth cloth, int layerMinutes, int sideMinutes) {
            layer = layerMinutes;
            side = sideMinutes;
            begin(cloth.bundle, cloth.shut);
            boolean sooner = true;
            for (int round = 0; sooner && round < MOST_CELLS; round++) {
                sooner = goOn(cloth.bundle, cloth.shut);
            }
        }

        int minutesAt(Bundle bundle, int r, int c, int height) {
            if (height < 0 || height >= bundle.sizeAt(r, c)) {
                return NOT_YET;
            }
            return minutes[starts[r * LONGEST + c] + height];
        }

        private void begin(Bundle bundle, boolean[] shut) {
            int next = 0;
            for (int r = 0; r < bundle.rows; r++) {
                for (int c = 0; c < bundle.columns; c++) {
                    int place = r * LONGEST + c;
                    int size = bundle.sizeAt(r, c);
                    boolean bare = bundle.hasBareSide(r, c);
                    starts[place] = next;
                    for (int height = 0; height < size; height++) {
                        boolean wet = bare || height == 0 || height == size - 1;
                        minutes[next + height] = wet && !shut[place] ? 1 : NOT_YET;
                    }
                    next += size;
                }
            }
        }

        private boolean goOn(Bundle bundle, boolean[] shut) {
            boolean sooner = false;
            for (int r = 0; r < bundle.rows; r++) {
                for (int c = 0; c < bundle.columns; c++) {
                    int size = shut[r * LONGEST + c] ? 0 : bundle.sizeAt(r, c);
                    for (int height = 0; height < size; height++) {
                        if (shorten(bundle, r, c, height)) {
                            sooner = true;
                        }
                    }
                }
            }
            return sooner;
        }

        /** Cells of shut places stay at NOT_YET, so no way through one is ever the shorter. */
        private boolean shorten(Bundle bundle, int r, int c, int height) {
            int cell = starts[r * LONGEST + c] + height;
            if (minutes[cell] == 1) {
                return false;
            }
            int least = layer + Math.min(minutesAt(bundle, r, c, height - 1), minutesAt(bundle, r, c, height + 1));
            for (int i = 0; i < SIDE_ROWS.length; i++) {
                int beside = minutesAt(bundle, r + SIDE_ROWS[i], c + SIDE_COLUMNS[i], height);
                least = Math.min(least, side + beside);
            }
            if (least >= minutes[cell]) {
                return false;
            }
            minutes[cell] = least;
            return true;
        }
    }

    /** Cells are bits here, and in the search: bit i is the cell that is i-th row by row. No rows: no wish yet. */
    private static final class Wish {
        int rows = 0;
        int columns = 0;
        int darkCells = 0;
    }

    /** What told() tells, as it tells it: NONE stands for what the way does not have. */
    private static final class Way {
        static final int BOARD = 2;
        static final int FACTS = 4;

        final int[] facts = new int[(BOARD + 1) * FACTS];
        int folds = 0;

        Way() {
            Arrays.fill(facts, NONE);
        }

        void clear() {
            Arrays.fill(facts, NONE);
            folds = 0;
        }

        void become(Way other) {
            System.arraycopy(other.facts, 0, facts, 0, facts.length);
            folds = other.folds;
        }

        void setFold(int i, int kind, int line, int how) {
            facts[i * FACTS] = kind;
            facts[i * FACTS + 1] = line;
            facts[i * FACTS + 2] = how;
            folds = i + 1;
        }

        void setBoard(int top, int bottom, int left, int right) {
            facts[BOARD * FACTS] = top;
            facts[BOARD * FACTS + 1] = bottom;
            facts[BOARD * FACTS + 2] = left;
            facts[BOARD * FACTS + 3] = right;
        }
    }

    /**
     * Goes through the ways in their order, up to the first that meets a wish.
     *
     * Two folds of a cloth of at most 4 by 4 put a third cell only into stacks that have a bare side:
     * so dye meets every cell that is not under the board in the first minute, whatever the bath, the
     * rules and the order in the stacks. A way darkens just those cells. Therefore a mountain does as the
     * valley ahead of it does, and folds without a board do as no folds do: neither is ever the first.
     */
    private static final class Search {
        private static final int LINES = LONGEST_WISH;
        private static final int VALLEYS = (SLANT + 1) * LINES;

        /** When the least differing is 0, the way that meets the wish: the search stops at it. */
        final Way tried = new Way();
        private final Bundle flat = new Bundle(LONGEST_WISH, LONGEST_WISH);
        private final Bundle once = new Bundle(LONGEST_WISH, LONGEST_WISH);
        private final Bundle twice = new Bundle(LONGEST_WISH, LONGEST_WISH);
        private final int[] cellsAt = new int[LONGEST_WISH * LONGEST];
        private final int[] cellsOfColumn = new int[LONGEST_WISH];
        private int allCells = 0;
        private int darkCells = 0;
        private int least = 0;

        int leastDiffering(Wish wish) {
            flat.spread(wish.rows, wish.columns);
            allCells = (1 << flat.cells) - 1;
            darkCells = wish.darkCells;
            tried.clear();
            least = differingUnder(0);
            tryBoards(flat);
            tryFolds(1);
            tryFolds(2);
            return least;
        }

        private void tryFolds(int folds) {
            for (int first = 0; first < VALLEYS && least > 0; first++) {
                if (!foldInto(once, flat, 0, first)) {
                    continue;
                }
                if (folds == 1) {
                    tryBoards(once);
                    continue;
                }
                for (int second = 0; second < VALLEYS && least > 0; second++) {
                    if (foldInto(twice, once, 1, second)) {
                        tryBoards(twice);
                    }
                }
            }
        }

        /** Valleys are numbered in their order: by kind, then line. */
        private boolean foldInto(Bundle folded, Bundle from, int i, int valley) {
            int kind = valley / LINES;
            int line = valley % LINES;
            if (!from.hasLine(kind, line) || kind == SLANT && !from.canSlant()) {
                return false;
            }
            folded.become(from);
            folded.crease(kind, line, VALLEY);
            tried.setFold(i, kind, line, VALLEY);
            return true;
        }

        private void tryBoards(Bundle bundle) {
            gatherCells(bundle);
            for (int top = 0; top < bundle.rows && least > 0; top++) {
                Arrays.fill(cellsOfColumn, 0);
                for (int bottom = top; bottom < bundle.rows && least > 0; bottom++) {
                    for (int c = 0; c < bundle.columns; c++) {
                        cellsOfColumn[c] |= cellsAt[bottom * LONGEST + c];
                    }
                    tryColumns(top, bottom, bundle.columns);
                }
            }
        }

        private void gatherCells(Bundle bundle) {
            Arrays.fill(cellsAt, 0);
            for (int i = 0; i < bundle.cells; i++) {
                cellsAt[bundle.row[i] * LONGEST + bundle.column[i]] |= 1 << i;
            }
        }

        private void tryColumns(int top, int bottom, int columns) {
            for (int left = 0; left < columns && least > 0; left++) {
                int shut = 0;
                for (int right = left; right < columns && least > 0; right++) {
                    shut |= cellsOfColumn[right];
                    least = Math.min(least, differingUnder(shut));
                    if (least == 0) {
                        tried.setBoard(top, bottom, left, right);
                    }
                }
            }
        }

        private int differingUnder(int shut) {
            return Integer.bitCount(allCells & ~shut ^ darkCells);
        }
    }
}
