import java.util.ArrayList;
import java.util.List;
import java.util.Random;

/** Long runs of calls, of every kind and with wrong numbers too, against the Model. */
public final class ModelTest {
    private static final Checks CHECKS = new Checks();
    private static final int[] ODD = {Integer.MIN_VALUE, -25, -2, -1, 0, 1, 24, 143, 144, 600, Integer.MAX_VALUE};

    private static final List<String> ASKING = List.of("about", "stack", "place", "high", "depth", "mirrored", "period",
        "steps", "told", "count");
    private static final int MOST_CALLS = 512;
    /** A wish takes up to ten calls at once, and each look asks in what is left of the 512 again and again. */
    private static final int ROOM_TO_ASK = 112;

    private final Random dice;
    private final FoldDye x = new FoldDye();
    private final Model m = new Model();
    private final int run;
    private final List<Call> made = new ArrayList<>();

    private ModelTest(int run) {
        this.run = run;
        dice = new Random(run);
    }

    /** A number from low to high, or now and then one that may be wrong. */
    private int some(int low, int high) {
        if (dice.nextInt(60) == 0) {
            return ODD[dice.nextInt(ODD.length)];
        }
        if (dice.nextInt(40) == 0) {
            return dice.nextBoolean() ? low - 1 : high + 1;
        }
        return low + dice.nextInt(high - low + 1);
    }

    private int clothNumber() {
        return some(0, Math.max(0, m.cloths.size() - 1));
    }

    private int cellOf(int cloth) {
        Model.Cloth c = m.get(cloth);
        return c == null ? some(0, 143) : 12 * some(0, c.rows - 1) + some(0, c.columns - 1);
    }

    private int span(int length) {
        int first = some(0, length - 1);
        return first * 24 + some(Math.max(0, Math.min(first, length - 1)), length - 1);
    }

    /** A call of both: the model's answer is due. */
    private void both(String text) {
        Call call = Call.of(text);
        made.add(call);
        CHECKS.equal("run " + run + " call " + made.size() + " " + call, call.on(x), call.on(m));
    }

    private void aFold() {
        int c = clothNumber();
        Model.Cloth cloth = m.get(c);
        int kind = some(0, 2);
        int rows = cloth == null ? 3 : cloth.bundle.rows, columns = cloth == null ? 3 : cloth.bundle.columns;
        int line = kind == 2 ? some(0, 0) : some(1, Math.max(1, (kind == 0 ? columns : rows) - 1));
        int how = some(0, 1);
        both("fold " + c + " " + kind + " " + line + " " + how);
    }

    private void aBoard() {
        int c = clothNumber();
        Model.Cloth cloth = m.get(c);
        int rows = span(cloth == null ? 3 : cloth.bundle.rows);
        int columns = span(cloth == null ? 3 : cloth.bundle.columns);
        both("board " + c + " " + rows + " " + columns);
    }

    private void aWish() {
        int most = dice.nextInt(8) == 0 ? 4 : 3;
        int rows = some(1, most), columns = some(1, most);
        both("wish " + rows + " " + columns);
        for (int i = dice.nextInt(9); i > 0; i--) {
            aDark();
        }
    }

    private void aDark() {
        int cell = m.wish == null ? some(0, 40) : 12 * some(0, m.wish.rows - 1) + some(0, m.wish.columns - 1);
        int is = some(0, 1);
        both("dark " + cell + " " + is);
    }

    private void aSearch() {
        both((dice.nextBoolean() ? "way " : "nearly ") + some(1, 99) + " " + some(1, 15));
        both("told " + some(0, 2) + " " + some(0, 3));
    }

    private void aCellCall() {
        int c = clothNumber();
        String cell = c + " " + cellOf(c);
        switch (dice.nextInt(5)) {
            case 0 -> both("place " + cell);
            case 1 -> both("high " + cell);
            case 2 -> both("reach " + cell);
            case 3 -> both("depth " + cell);
            default -> both("alike " + cell + " " + cellOf(c));
        }
    }

    private void aClothCall() {
        int c = clothNumber();
        switch (dice.nextInt(10)) {
            case 0 -> both("open " + c);
            case 1 -> both("off " + c);
            case 2 -> both("dry " + c);
            case 3 -> both("mirrored " + c + " " + some(0, 3));
            case 4 -> both("period " + c + " " + some(0, 1));
            case 5 -> both("steps " + c + " " + clothNumber());
            case 6, 7 -> both("about " + c + " " + some(0, 9));
            default -> both("stack " + c + " " + (24 * some(0, 4) + some(0, 4)) + " " + some(0, 3));
        }
    }

    private void aBath() {
        String dip = dice.nextInt(3) > 0 ? "bath " : "discharge ";
        both(dip + clothNumber() + " " + some(1, dice.nextBoolean() ? 9 : 99) + " " + some(1, 15));
    }

    private void anyCall() {
        int die = dice.nextInt(100);
        if (m.cloths.isEmpty() || die < 3) {
            both("cloth " + some(1, 12) + " " + some(1, 12));
        } else if (die < 6) {
            int what = some(0, 2);
            both("rule " + what + " " + some(1, what == 2 ? 20 : 9));
        } else if (die < 34) {
            aFold();
        } else if (die < 40) {
            aBoard();
        } else if (die < 50) {
            aBath();
        } else if (die < 68) {
            aCellCall();
        } else if (die < 92) {
            aClothCall();
        } else if (die < 94) {
            aWish();
        } else if (die < 96) {
            aDark();
        } else if (die < 98) {
            aSearch();
        } else {
            both("count " + some(0, 4));
        }
    }

    /** All that can be asked of the object, but for what only a change tells: the calls behind it have told that. */
    private void wholeState() {
        int[][] reaches = new int[m.cloths.size()][];
        for (int c = 0; c < reaches.length; c++) {
            reaches[c] = m.reaches(m.get(c));
        }
        Look.after(made).forEach((text, shown) -> {
            String[] words = text.split(" ");
            String in = "run " + run + " after call " + made.size() + " " + text;
            if (words[0].equals("reach")) {
                CHECKS.equal(in, shown, reaches[Integer.parseInt(words[1])][Integer.parseInt(words[2])]);
            } else if (ASKING.contains(words[0])) {
                CHECKS.equal(in, shown, Call.of(text).on(m));
            }
        });
    }

    private void calls(int most, int looks) {
        for (int i = 1; i <= looks; i++) {
            while (made.size() < most * i / looks) {
                anyCall();
            }
            wholeState();
        }
    }

    public static void main(String[] args) {
        int runs = args.length > 0 ? Integer.parseInt(args[0]) : 150;
        for (int run = 1; run <= runs; run++) {
            new ModelTest(run).calls(MOST_CALLS - ROOM_TO_ASK, 6);
        }
        CHECKS.end();
    }
}
