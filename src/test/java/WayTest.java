import java.util.ArrayList;
import java.util.List;
import java.util.Random;

/** Ways against the Model, which dyes each of them; and that no small bundle hides a cell from dye. */
public final class WayTest {
    private static final Checks CHECKS = new Checks();

    /** What the search leans on: after two folds of a small cloth each cell is reached in the first minute. */
    private static void everyCellIsMetAtOnce(int rows, int columns) {
        Model.Cloth small = new Model.Cloth(rows, columns);
        for (int folds = 0; folds <= 2; folds++) {
            for (List<int[]> sequence : Model.sequences(small, folds)) {
                FoldDye x = new FoldDye();
                x.rule(0, 9);
                x.rule(1, 9);
                x.cloth(rows, columns);
                for (int[] f : sequence) {
                    CHECKS.that("a fold of a way", x.fold(0, f[0], f[1], f[2]) > 0);
                }
                for (int cell : small.cells()) {
                    CHECKS.equal("reach(0, " + cell + ") of " + rows + " by " + columns, x.reach(0, cell), 1);
                }
            }
        }
    }

    /** The ways of one size and bath, each with the cells that it makes dark, gone through in order. */
    private static final class Ways {
        final List<int[]> facts = new ArrayList<>();
        final List<Integer> darks = new ArrayList<>();

        Ways(int rows, int columns, int minutes, int strength) {
            Model.Cloth small = new Model.Cloth(rows, columns);
            for (int kind = 0; kind < 6; kind++) {
                for (List<int[]> sequence : Model.sequences(small, kind / 2)) {
                    Model.Bundle b = Model.after(small, sequence);
                    List<int[]> boards = new ArrayList<>();
                    boards.add(null);
                    for (int[] board : kind % 2 == 0 ? boards : Model.boardsOf(b)) {
                        add(rows, columns, b, sequence, board, minutes, strength);
                    }
                }
            }
        }

        private void add(int rows, int columns, Model.Bundle b, List<int[]> folds, int[] board, int minutes, int strength) {
            Model m = new Model();
            m.cloth(rows, columns);
            m.get(0).bundle = b;
            if (board != null) {
                m.get(0).boards.add(board);
            }
            m.bath(0, minutes, strength);
            int dark = 0;
            for (int cell : m.get(0).cells()) {
                dark |= m.depth(0, cell) > 0 ? 1 << cell / 12 * columns + cell % 12 : 0;
            }
            int[] told = {-1, -1, -1, -1, -1, -1, -1, -1, -1, -1, -1, -1, folds.size()};
            for (int i = 0; i < folds.size(); i++) {
                System.arraycopy(folds.get(i), 0, told, 4 * i, 3);
            }
            if (board != null) {
                System.arraycopy(board, 0, told, 8, 4);
            }
            facts.add(told);
            darks.add(dark);
        }

        int first(int wish) {
            return darks.indexOf(wish);
        }

        int least(int wish) {
            int least = 99;
            for (int dark : darks) {
                least = Math.min(least, Integer.bitCount(dark ^ wish));
            }
            return least;
        }
    }

    private static void lookAt(Ways ways, int rows, int columns, int wish, int minutes, int strength) {
        String what = rows + " by " + columns + " wish " + Integer.toBinaryString(wish);
        FoldDye x = new FoldDye();
        x.wish(rows, columns);
        for (int i = 0; i < rows * columns; i++) {
            x.dark(12 * (i / columns) + i % columns, wish >> i & 1);
        }
        int first = ways.first(wish);
        int[] told = first < 0 ? null : ways.facts.get(first);
        CHECKS.equal("way of " + what, x.way(minutes, strength), told == null ? FoldDye.NOT : told[12]);
        for (int i = 0; i < 12; i++) {
            CHECKS.equal("told " + i + " of " + what, x.told(i / 4, i % 4), told == null ? FoldDye.NONE : told[i]);
        }
        CHECKS.equal("nearly of " + what, x.nearly(minutes, strength), ways.least(wish));
    }

    public static void main(String[] args) {
        Random dice = new Random(7);
        for (int rows = 1; rows <= 4; rows++) {
            for (int columns = 1; columns <= 4; columns++) {
                everyCellIsMetAtOnce(rows, columns);
                int minutes = 1 + dice.nextInt(99), strength = 1 + dice.nextInt(15);
                Ways ways = new Ways(rows, columns, minutes, strength);
                int all = 1 << rows * columns;
                for (int wish = 0; wish < all; wish += all <= 512 ? 1 : 1 + dice.nextInt(all / 256)) {
                    lookAt(ways, rows, columns, wish, minutes, strength);
                }
                for (int i = 0; i < ways.darks.size(); i += 1 + ways.darks.size() / 300) {
                    lookAt(ways, rows, columns, ways.darks.get(i), minutes, strength);
                }
            }
        }
        CHECKS.end();
    }
}
