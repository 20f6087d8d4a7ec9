import java.util.Random;

/** Long runs of calls, of every kind and with wrong numbers too, against the Model. */
public final class ModelTest {
    private static final Checks CHECKS = new Checks();
    private static final int[] ODD = {Integer.MIN_VALUE, -25, -2, -1, 0, 1, 24, 143, 144, 600, Integer.MAX_VALUE};

    private final Random dice;
    private final FoldDye x = new FoldDye();
    private final Model m = new Model();
    private final int run;
    private int calls = 0;

    private ModelTest(int run) {
        this.run = run;
        dice = new Random(run);
    }

    /** A number from low to high, or now and then one that may be wrong. */
    private int some(int low, int high) {
        if (dice.nextInt(60) == 0) {
            return ODD[dice.nextInt(ODD.length)];
        }
        if (dice.nextInt(40) == 0) {
            return dice.nextBoolean() ? low - 1 : high + 1;
        }
        return low + dice.nextInt(high - low + 1);
    }

    private int clothNumber() {
        return some(0, Math.max(0, m.cloths.size() - 1));
    }

    private int cellOf(int cloth) {
        Model.Cloth c = m.get(cloth);
        return c == null ? some(0, 143) : 12 * some(0, c.rows - 1) + some(0, c.columns - 1);
    }

    private int span(int length) {
        int first = some(0, length - 1);
        return first * 24 + some(Math.max(0, Math.min(first, length - 1)), length - 1);
    }

    private void due(String call, int got, int due) {
        calls++;
        CHECKS.equal("run " + run + " call " + calls + " " + call, got, due);
    }

    private void aFold() {
        int c = clothNumber();
        Model.Cloth cloth = m.get(c);
        int kind = some(0, 2);
        int rows = cloth == null ? 3 : cloth.bundle.rows, columns = cloth == null ? 3 : cloth.bundle.columns;
        int line = kind == 2 ? some(0, 0) : some(1, Math.max(1, (kind == 0 ? columns : rows) - 1));
        int how = some(0, 1);
        due("fold(" + c + ", " + kind + ", " + line + ", " + how + ")", x.fold(c, kind, line, how), m.fold(c, kind, line, how));
    }

    private void aBoard() {
        int c = clothNumber();
        Model.Cloth cloth = m.get(c);
        int rows = span(cloth == null ? 3 : cloth.bundle.rows);
        int columns = span(cloth == null ? 3 : cloth.bundle.columns);
        due("board(" + c + ", " + rows + ", " + columns + ")", x.board(c, rows, columns), m.board(c, rows, columns));
    }

    private void aWish() {
        int most = dice.nextInt(8) == 0 ? 4 : 3;
        int rows = some(1, most), columns = some(1, most);
        due("wish(" + rows + ", " + columns + ")", x.wish(rows, columns), m.wish(rows, columns));
        for (int i = dice.nextInt(9); i > 0; i--) {
            aDark();
        }
    }

    private void aDark() {
        int cell = m.wish == null ? some(0, 40) : 12 * some(0, m.wish.rows - 1) + some(0, m.wish.columns - 1);
        int is = some(0, 1);
        due("dark(" + cell + ", " + is + ")", x.dark(cell, is), m.dark(cell, is));
    }

    private void aSearch() {
        int minutes = some(1, 99), strength = some(1, 15);
        if (dice.nextBoolean()) {
            due("way(" + minutes + ", " + strength + ")", x.way(minutes, strength), m.way(minutes, strength));
            for (int i = -1; i <= 3; i++) {
                for (int what = -1; what <= 4; what++) {
                    CHECKS.equal("run " + run + " told(" + i + ", " + what + ")", x.told(i, what), m.told(i, what));
                }
            }
        } else {
            due("nearly(" + minutes + ", " + strength + ")", x.nearly(minutes, strength), m.nearly(minutes, strength));
        }
    }

    private void aCellCall() {
        int c = clothNumber(), cell = cellOf(c), other = cellOf(c);
        String in = "(" + c + ", " + cell + ")";
        switch (dice.nextInt(5)) {
            case 0 -> due("place" + in, x.place(c, cell), m.place(c, cell));
            case 1 -> due("high" + in, x.high(c, cell), m.high(c, cell));
            case 2 -> due("reach" + in, x.reach(c, cell), m.reach(c, cell));
            case 3 -> due("depth" + in, x.depth(c, cell), m.depth(c, cell));
            default -> due("alike" + in + " " + other, x.alike(c, cell, other), m.alike(c, cell, other));
        }
    }

    private void aClothCall() {
        int c = clothNumber(), n = some(0, 9);
        switch (dice.nextInt(10)) {
            case 0 -> due("open " + c, x.open(c), m.open(c));
            case 1 -> due("off " + c, x.off(c), m.off(c));
            case 2 -> due("dry " + c, x.dry(c), m.dry(c));
            case 3 -> due("mirrored " + c + " " + n % 4, x.mirrored(c, n % 4), m.mirrored(c, n % 4));
            case 4 -> due("period " + c + " " + n % 2, x.period(c, n % 2), m.period(c, n % 2));
            case 5 -> due("steps " + c + " " + n, x.steps(c, n), m.steps(c, n));
            case 6, 7 -> due("about " + c + " " + n, x.about(c, n), m.about(c, n));
            default -> due("stack", x.stack(c, n * 24 + n / 2, n / 3), m.stack(c, n * 24 + n / 2, n / 3));
        }
    }

    private void aBath() {
        int c = clothNumber(), minutes = some(1, dice.nextBoolean() ? 9 : 99), strength = some(1, 15);
        if (dice.nextInt(3) > 0) {
            due("bath " + c + " " + minutes + " " + strength, x.bath(c, minutes, strength), m.bath(c, minutes, strength));
        } else {
            due("discharge " + c + " " + minutes + " " + strength,
                x.discharge(c, minutes, strength), m.discharge(c, minutes, strength));
        }
    }

    private void anyCall() {
        int die = dice.nextInt(100);
        int a = some(1, 12), b = some(1, 12), what = some(0, 4), v = some(1, 9);
        if (m.cloths.isEmpty() || die < 3) {
            due("cloth " + a + " " + b, x.cloth(a, b), m.cloth(a, b));
        } else if (die < 6) {
            due("rule " + what + " " + v, x.rule(what, v), m.rule(what, v));
        } else if (die < 34) {
            aFold();
        } else if (die < 40) {
            aBoard();
        } else if (die < 50) {
            aBath();
        } else if (die < 68) {
            aCellCall();
        } else if (die < 92) {
            aClothCall();
        } else if (die < 94) {
            aWish();
        } else if (die < 96) {
            aDark();
        } else if (die < 98) {
            aSearch();
        } else {
            due("count " + what, x.count(what), m.count(what));
        }
    }

    /** Looks at every cell and every fact of every cloth. */
    private void wholeState() {
        for (int c = 0; c < m.cloths.size(); c++) {
            for (int what = 0; what < 10; what++) {
                CHECKS.equal("run " + run + " about(" + c + ", " + what + ")", x.about(c, what), m.about(c, what));
            }
            int[] reach = m.reaches(m.get(c));
            for (int cell : m.get(c).cells()) {
                String in = "(" + c + ", " + cell + ") after call " + calls + " of run " + run;
                CHECKS.equal("place" + in, x.place(c, cell), m.place(c, cell));
                CHECKS.equal("high" + in, x.high(c, cell), m.high(c, cell));
                CHECKS.equal("depth" + in, x.depth(c, cell), m.depth(c, cell));
                CHECKS.equal("reach" + in, x.reach(c, cell), reach[cell]);
                CHECKS.equal("stack" + in, x.stack(c, m.place(c, cell), m.high(c, cell)), cell);
            }
            for (int kind = 0; kind < 4; kind++) {
                CHECKS.equal("run " + run + " mirrored", x.mirrored(c, kind), m.mirrored(c, kind));
            }
        }
        for (int what = 0; what < 5; what++) {
            CHECKS.equal("run " + run + " count " + what, x.count(what), m.count(what));
        }
    }

    private void runAll() {
        while (calls < 500) {
            anyCall();
            if (calls % 41 == 0) {
                wholeState();
            }
        }
        wholeState();
    }

    public static void main(String[] args) {
        int runs = args.length > 0 ? Integer.parseInt(args[0]) : 150;
        for (int run = 1; run <= runs; run++) {
            new ModelTest(run).runAll();
        }
        CHECKS.end();
    }
}
