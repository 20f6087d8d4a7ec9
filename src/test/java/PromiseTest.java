/** Each promise of the document by its number: ordinary inputs, the edges that it names, wrong inputs. */
public final class PromiseTest {
    private static final Checks CHECKS = new Checks();
    private static final int[] WRONG = {-1, -2, Integer.MIN_VALUE, Integer.MAX_VALUE};

    private static void due(String call, int got, int due) {
        CHECKS.equal(call, got, due);
    }

    private static FoldDye withCloth(int rows, int columns) {
        FoldDye x = new FoldDye();
        due("cloth(" + rows + ", " + columns + ")", x.cloth(rows, columns), 0);
        return x;
    }

    /** 12 by 12, folded to 3 by 3 with 16 cells in each place. */
    private static FoldDye withThickBundle() {
        FoldDye x = withCloth(12, 12);
        due("first fold", x.fold(0, 0, 6, 0), 1);
        due("second fold", x.fold(0, 1, 6, 0), 2);
        due("third fold", x.fold(0, 0, 3, 0), 3);
        due("fourth fold", x.fold(0, 1, 3, 0), 4);
        return x;
    }

    /** A flat cloth that has just the cells of one rectangle undyed, the others at strength. */
    private static void dyeAllBut(FoldDye x, int cloth, int rows, int columns, int strength) {
        due("a board", x.board(cloth, rows, columns), 1);
        x.bath(cloth, 1, strength);
        due("off", x.off(cloth), 1);
        x.dry(cloth);
    }

    private static void stackIs(String what, FoldDye x, int place, int... cells) {
        for (int h = 0; h < cells.length; h++) {
            due(what + ": stack(0, " + place + ", " + h + ")", x.stack(0, place, h), cells[h]);
            due(what + ": place(0, " + cells[h] + ")", x.place(0, cells[h]), place);
            due(what + ": high(0, " + cells[h] + ")", x.high(0, cells[h]), h);
        }
        due(what + ": above stack " + place, x.stack(0, place, cells.length), FoldDye.NOT);
    }

    private static void promise1NewObject() {
        FoldDye x = new FoldDye();
        for (int what = 0; what <= 4; what++) {
            due("count of a new object", x.count(what), 0);
        }
        due("about(0, 0) of a new object", x.about(0, 0), FoldDye.NONE);
        due("told of a new object", x.told(0, 0), FoldDye.NONE);
        due("told of a new object", x.told(2, 0), FoldDye.NONE);
        due("way of a new object", x.way(1, 1), FoldDye.NONE);
        due("nearly of a new object", x.nearly(1, 1), FoldDye.NONE);
        due("dark of a new object", x.dark(0, 1), FoldDye.NONE);
        FoldDye y = new FoldDye();
        x.cloth(1, 1);
        x.rule(0, 9);
        due("objects share no cloths", y.count(0), 0);
        due("objects share no rules", y.rule(0, 1), 3);
    }

    private static void promise2Cloth() {
        FoldDye x = new FoldDye();
        due("cloth(0, 1)", x.cloth(0, 1), FoldDye.NONE);
        due("cloth(1, 0)", x.cloth(1, 0), FoldDye.NONE);
        due("cloth(13, 12)", x.cloth(13, 12), FoldDye.NONE);
        due("cloth(12, 13)", x.cloth(12, 13), FoldDye.NONE);
        for (int wrong : WRONG) {
            due("cloth(wrong, 1)", x.cloth(wrong, 1), FoldDye.NONE);
            due("cloth(1, wrong)", x.cloth(1, wrong), FoldDye.NONE);
        }
        for (int i = 0; i < 6; i++) {
            due("a cloth's number", x.cloth(12 - i, 1 + i), i);
            due("its rows", x.about(i, 0), 12 - i);
            due("its columns", x.about(i, 1), 1 + i);
        }
        due("a seventh cloth", x.cloth(1, 1), FoldDye.FULL);
        due("a seventh wrong cloth", x.cloth(0, 1), FoldDye.NONE);
        due("six cloths", x.count(0), 6);
    }

    private static void promise3Rule() {
        FoldDye x = new FoldDye();
        int[] first = {3, 2, 8};
        int[] most = {9, 9, 20};
        for (int what = 0; what < 3; what++) {
            due("too great a rule", x.rule(what, most[what] + 1), FoldDye.NONE);
            due("too small a rule", x.rule(what, 0), FoldDye.NONE);
            due("a rule at first", x.rule(what, most[what]), first[what]);
            due("a rule then", x.rule(what, 1), most[what]);
            due("a rule at last", x.rule(what, 1), 1);
        }
        due("rule(3, 1)", x.rule(3, 1), FoldDye.NONE);
        for (int wrong : WRONG) {
            due("rule(wrong, 1)", x.rule(wrong, 1), FoldDye.NONE);
            due("rule(0, wrong)", x.rule(0, wrong), FoldDye.NONE);
        }
    }

    private static void promise4FoldsByLines() {
        FoldDye x = withCloth(1, 5);
        due("fold(0, 0, 2, 0)", x.fold(0, 0, 2, 0), 1);
        due("as wide as what came", x.about(0, 4), 3);
        stackIs("column fold", x, 0, 4);
        stackIs("column fold", x, 1, 0, 3);
        stackIs("column fold", x, 2, 1, 2);
        due("fold(0, 0, 2, 1)", x.fold(0, 0, 2, 1), 2);
        due("narrower", x.about(0, 4), 2);
        stackIs("mountain", x, 0, 4);
        stackIs("mountain turned over", x, 1, 2, 1, 0, 3);
        due("fold(0, 0, 1, 0)", x.fold(0, 0, 1, 0), 3);
        stackIs("valley turned over", x, 0, 4, 3, 0, 1, 2);

        FoldDye y = withCloth(5, 1);
        due("fold(0, 1, 2, 1)", y.fold(0, 1, 2, 1), 1);
        due("as long as what came", y.about(0, 3), 3);
        stackIs("row fold", y, 0, 48);
        stackIs("row fold", y, 24, 36, 0);
        stackIs("row fold", y, 48, 24, 12);
    }

    private static void promise4Slants() {
        FoldDye x = withCloth(2, 4);
        due("a slant that is not square", x.fold(0, 2, 0, 0), FoldDye.STATE);
        due("fold(0, 0, 2, 0)", x.fold(0, 0, 2, 0), 1);
        due("fold(0, 2, 0, 0)", x.fold(0, 2, 0, 0), 2);
        stackIs("slant", x, 0, 0, 3);
        stackIs("slant turned over", x, 24, 12, 15, 2, 1);
        stackIs("slant's own place", x, 25, 13, 14);
        stackIs("left behind", x, 1);
        due("places", x.about(0, 9), 3);

        FoldDye y = withCloth(3, 3);
        due("a slant", y.fold(0, 2, 0, 0), 1);
        due("columns over", y.fold(0, 0, 1, 0), 2);
        due("rows over", y.fold(0, 1, 2, 0), 3);
        stackIs("an empty place", y, 0);
        stackIs("beside it", y, 1, 0);
        stackIs("below it", y, 24, 26);
        stackIs("thick", y, 25, 12, 1, 13, 25, 14, 2, 24);
        due("a slant that empties row 0", y.fold(0, 2, 0, 1), 4);
        due("row 0 is left away", y.about(0, 3), 1);
        due("both columns stay", y.about(0, 4), 2);
        stackIs("below what was there", y, 0, 0, 26);
        stackIs("moved up", y, 1, 12, 1, 13, 25, 14, 2, 24);
        due("one row", y.fold(0, 2, 0, 0), FoldDye.STATE);
    }

    private static void promise4Wrong() {
        FoldDye x = withCloth(3, 4);
        for (int wrong : WRONG) {
            due("fold(wrong ..)", x.fold(wrong, 0, 1, 0), FoldDye.NONE);
            due("fold of a wrong kind", x.fold(0, wrong, 1, 0), FoldDye.NONE);
            due("fold at a wrong line", x.fold(0, 0, wrong, 0), FoldDye.NONE);
            due("fold at a wrong line", x.fold(0, 1, wrong, 0), FoldDye.NONE);
            due("slant at a wrong line", x.fold(0, 2, wrong, 0), FoldDye.NONE);
            due("fold by a wrong how", x.fold(0, 0, 1, wrong), FoldDye.NONE);
        }
        due("fold(1 ..)", x.fold(1, 0, 1, 0), FoldDye.NONE);
        due("fold of kind 3", x.fold(0, 3, 1, 0), FoldDye.NONE);
        due("fold at line 0", x.fold(0, 0, 0, 0), FoldDye.NONE);
        due("fold at line 4 of 4", x.fold(0, 0, 4, 0), FoldDye.NONE);
        due("fold at line 3 of 3", x.fold(0, 1, 3, 0), FoldDye.NONE);
        due("slant at line 1", x.fold(0, 2, 1, 0), FoldDye.NONE);
        due("slant by how 2", x.fold(0, 2, 0, 2), FoldDye.NONE);
        due("fold by how 2", x.fold(0, 0, 1, 2), FoldDye.NONE);
        due("nothing was folded", x.about(0, 2), 0);
        due("a slant of one cell", withCloth(1, 1).fold(0, 2, 0, 0), FoldDye.STATE);
    }

    private static void promise4TwelveFolds() {
        FoldDye x = withCloth(2, 2);
        for (int i = 1; i <= 12; i++) {
            due("slant after slant", x.fold(0, 2, 0, i % 2), i);
        }
        due("a thirteenth", x.fold(0, 0, 1, 0), FoldDye.FULL);
        x.board(0, 0, 0);
        due("full ahead of held", x.fold(0, 0, 1, 0), FoldDye.FULL);
        due("no such line ahead of full", x.fold(0, 0, 2, 0), FoldDye.NONE);
        due("open", x.open(0), 12);
        due("again", x.fold(0, 0, 1, 0), 1);
    }

    private static void promise4Refused() {
        FoldDye x = withThickBundle();
        x.board(0, 0, 0);
        due("held ahead of thick", x.fold(0, 2, 0, 0), FoldDye.HELD);
        x.off(0);
        x.bath(0, 1, 1);
        due("thick ahead of tears", x.fold(0, 2, 0, 0), FoldDye.THICK);
        due("thick is not torn", x.about(0, 7), 0);
        due("nothing changed", x.about(0, 2), 4);
        due("nothing changed", x.about(0, 5), 16);

        FoldDye y = withCloth(2, 12);
        for (int i = 1; i <= 11; i++) {
            due("fold at line 1", y.fold(0, 0, 1, i % 2), i);
        }
        due("24 in a stack", y.fold(0, 1, 1, 0), 12);
        due("24 in a stack", y.about(0, 5), 24);

        FoldDye z = withCloth(5, 5);
        for (int kind = 0; kind <= 1; kind++) {
            due("4 left", z.fold(0, kind, 1, 0), 1 + 3 * kind);
            due("2 left", z.fold(0, kind, 2, 0), 2 + 3 * kind);
            due("1 left, or 25 in a stack", z.fold(0, kind, 1, 0), kind == 0 ? 3 : FoldDye.THICK);
        }
    }

    private static void promise4Tears() {
        FoldDye x = withCloth(1, 7);
        x.bath(0, 1, 1);
        due("3 at most", x.fold(0, 0, 4, 0), 1);
        due("held ahead of tears", x.board(0, 0, 0), 1);
        due("held ahead of tears", x.fold(0, 0, 2, 0), FoldDye.HELD);
        x.off(0);
        due("4 at most", x.fold(0, 0, 2, 0), 2);
        due("7 tears", x.fold(0, 0, 1, 0), FoldDye.TEARS);
        due("7 tears again", x.fold(0, 0, 1, 1), FoldDye.TEARS);
        due("torn", x.about(0, 7), 2);
        due("not folded", x.about(0, 2), 2);
        due("not folded", x.about(0, 4), 2);
        due("dry", x.dry(0), 1);
        due("dry cloth does not tear", x.fold(0, 0, 1, 0), 3);
        due("torn stays", x.about(0, 7), 2);

        FoldDye y = withCloth(1, 6);
        y.bath(0, 1, 1);
        due("2 each", y.fold(0, 0, 3, 0), 1);
        due("2 and 4", y.fold(0, 0, 1, 0), 2);
        due("6 does not tear", y.fold(0, 0, 1, 0), 3);

        FoldDye z = withCloth(1, 12);
        due("2 at most", z.fold(0, 0, 4, 0), 1);
        due("4 at most", z.fold(0, 0, 6, 0), 2);
        due("8 at most", z.fold(0, 0, 5, 0), 3);
        z.bath(0, 1, 1);
        due("a stack of 8 that only moves tears too", z.fold(0, 0, 1, 0), FoldDye.TEARS);
    }

    private static void promise5Open() {
        FoldDye x = withCloth(3, 4);
        due("open(-1)", x.open(-1), FoldDye.NONE);
        due("open(1)", x.open(1), FoldDye.NONE);
        due("open when open", x.open(0), 0);
        x.fold(0, 0, 1, 0);
        x.fold(0, 1, 2, 1);
        x.board(0, 0, 0);
        x.bath(0, 1, 4);
        due("open", x.open(0), 2);
        due("no folds", x.about(0, 2), 0);
        due("no boards", x.about(0, 8), 0);
        due("still soaked", x.about(0, 6), 1);
        for (int cell = 0; cell < 40; cell++) {
            int due = cell % 12 < 4 && cell / 12 < 3 ? cell / 12 * 24 + cell % 12 : FoldDye.NONE;
            due("each cell in its own place", x.place(0, cell), due);
            due("reach where a board was", x.reach(0, cell), due == FoldDye.NONE ? due : 1);
        }
    }

    private static void promise6About() {
        FoldDye x = withCloth(4, 6);
        int[] open = {4, 6, 0, 4, 6, 1, 0, 0, 0, 24};
        for (int what = 0; what <= 9; what++) {
            due("about(0, " + what + ") when open", x.about(0, what), open[what]);
        }
        x.fold(0, 0, 2, 0);
        x.fold(0, 1, 2, 1);
        x.bath(0, 1, 1);
        due("8 tear", x.fold(0, 0, 3, 0), FoldDye.TEARS);
        x.board(0, 0, 0);
        x.board(0, 0, 0);
        int[] then = {4, 6, 2, 2, 4, 4, 1, 1, 2, 8};
        for (int what = 0; what <= 9; what++) {
            due("about(0, " + what + ") then", x.about(0, what), then[what]);
        }
        due("about(0, 10)", x.about(0, 10), FoldDye.NONE);
        due("about(1, 0)", x.about(1, 0), FoldDye.NONE);
        for (int wrong : WRONG) {
            due("about(wrong, 0)", x.about(wrong, 0), FoldDye.NONE);
            due("about(0, wrong)", x.about(0, wrong), FoldDye.NONE);
        }
    }

    private static void promises7to9StackPlaceHigh() {
        FoldDye x = withCloth(3, 4);
        due("stack(0, 51, 0)", x.stack(0, 51, 0), 27);
        due("stack(0, 51, 1)", x.stack(0, 51, 1), FoldDye.NOT);
        due("above every stack", x.stack(0, 51, Integer.MAX_VALUE), FoldDye.NOT);
        due("a column too many", x.stack(0, 52, 0), FoldDye.NONE);
        due("a row too many", x.stack(0, 72, 0), FoldDye.NONE);
        due("stack(1, 0, 0)", x.stack(1, 0, 0), FoldDye.NONE);
        due("place(0, 27)", x.place(0, 27), 51);
        due("high(0, 27)", x.high(0, 27), 0);
        x.fold(0, 0, 2, 0);
        due("a place that the bundle no longer has", x.stack(0, 2, 0), FoldDye.NONE);
        due("place(0, 27)", x.place(0, 27), 48);
        due("high(0, 27)", x.high(0, 27), 1);
        for (int wrong : new int[] {-1, Integer.MIN_VALUE, 4, 36, Integer.MAX_VALUE}) {
            due("place(0, wrong)", x.place(0, wrong), FoldDye.NONE);
            due("high(0, wrong)", x.high(0, wrong), FoldDye.NONE);
        }
        for (int wrong : WRONG) {
            due("stack(wrong, 0, 0)", x.stack(wrong, 0, 0), FoldDye.NONE);
            due("stack(0, wrong, 0)", x.stack(0, wrong, 0), FoldDye.NONE);
            due("place(wrong, 0)", x.place(wrong, 0), FoldDye.NONE);
            due("high(wrong, 0)", x.high(wrong, 0), FoldDye.NONE);
        }
        due("stack(0, 0, -1)", x.stack(0, 0, -1), FoldDye.NONE);
    }

    private static void promises10And11Boards() {
        FoldDye x = withCloth(3, 4);
        due("off without boards", x.off(0), 0);
        for (int i = 1; i <= 6; i++) {
            due("boards may meet", x.board(0, 24 + 2, 24 * 2 + 3), i);
        }
        due("a seventh", x.board(0, 0, 0), FoldDye.FULL);
        due("a seventh that is wrong", x.board(0, 3, 0), FoldDye.NONE);
        for (int cell : new int[] {0, 3, 12, 13, 25, 24}) {
            due("beside the board", x.reach(0, cell), 1);
        }
        for (int cell : new int[] {14, 15, 26, 27}) {
            due("under the board", x.reach(0, cell), FoldDye.NEVER);
        }
        due("off", x.off(0), 6);
        due("off again", x.off(0), 0);
        due("not under it any more", x.reach(0, 14), 1);
        due("first row after the last", x.board(0, 24 * 2 + 1, 0), FoldDye.NONE);
        due("first column after the last", x.board(0, 0, 24 * 2 + 1), FoldDye.NONE);
        due("row 3 of 3", x.board(0, 3, 0), FoldDye.NONE);
        due("column 4 of 4", x.board(0, 0, 4), FoldDye.NONE);
        due("the whole bundle", x.board(0, 2, 3), 1);
        due("board(1, 0, 0)", x.board(1, 0, 0), FoldDye.NONE);
        due("off(1)", x.off(1), FoldDye.NONE);
        for (int wrong : WRONG) {
            due("board(wrong, 0, 0)", x.board(wrong, 0, 0), FoldDye.NONE);
            due("board(0, wrong, 0)", x.board(0, wrong, 0), FoldDye.NONE);
            due("board(0, 0, wrong)", x.board(0, 0, wrong), FoldDye.NONE);
            due("off(wrong)", x.off(wrong), FoldDye.NONE);
        }
        due("open", x.open(0), 0);
        x.fold(0, 0, 2, 0);
        due("of the bundle, not the cloth", x.board(0, 0, 2), FoldDye.NONE);
    }

    private static void promise12Reach() {
        FoldDye x = withThickBundle();
        due("an edge place, in the middle", x.reach(0, x.stack(0, 1, 7)), 1);
        due("the centre's lowest", x.reach(0, x.stack(0, 25, 0)), 1);
        due("the centre's highest", x.reach(0, x.stack(0, 25, 15)), 1);
        due("the centre by a side", x.reach(0, x.stack(0, 25, 7)), 3);
        x.rule(0, 1);
        due("next to the lowest by a layer", x.reach(0, x.stack(0, 25, 1)), 2);
        x.rule(1, 9);
        due("the centre by layers from below", x.reach(0, x.stack(0, 25, 7)), 8);
        due("the centre by layers from above", x.reach(0, x.stack(0, 25, 9)), 7);
        x.rule(0, 3);
        due("the centre by a long side", x.reach(0, x.stack(0, 25, 7)), 10);
        x.board(0, 0, 25);
        x.board(0, 25, 0);
        x.board(0, 25, 50);
        due("one side is not shut", x.reach(0, x.stack(0, 25, 7)), 10);
        x.board(0, 50, 25);
        due("all sides shut", x.reach(0, x.stack(0, 25, 7)), 22);
        due("shut", x.reach(0, x.stack(0, 1, 7)), FoldDye.NEVER);
        due("shut at the highest", x.reach(0, x.stack(0, 1, 15)), FoldDye.NEVER);
        x.bath(0, 1, 1);
        due("half when soaked", x.reach(0, x.stack(0, 25, 7)), 11);
        due("half, up", x.reach(0, x.stack(0, 25, 2)), 4);
        due("half of 1, up", x.reach(0, x.stack(0, 25, 0)), 1);
        due("never when soaked", x.reach(0, x.stack(0, 1, 7)), FoldDye.NEVER);
        x.off(0);
        x.board(0, 25, 25);
        due("the centre shut", x.reach(0, x.stack(0, 25, 0)), FoldDye.NEVER);
        due("reach(1, 0)", x.reach(1, 0), FoldDye.NONE);
        due("reach(0, 144)", x.reach(0, 144), FoldDye.NONE);
        for (int wrong : WRONG) {
            due("reach(wrong, 0)", x.reach(wrong, 0), FoldDye.NONE);
            due("reach(0, wrong)", x.reach(0, wrong), FoldDye.NONE);
        }
    }

    private static void promises12And13OfTheGreatestCloth() {
        FoldDye x = withCloth(12, 12);
        due("the last cell", x.reach(0, 143), 1);
        due("every cell", x.bath(0, 1, 1), 144);
        due("a board on all of it", x.board(0, 11, 11), 1);
        due("the last cell, shut", x.reach(0, 143), FoldDye.NEVER);
        due("no cell", x.bath(0, 99, 15), 0);
        due("the last place", x.stack(0, 24 * 11 + 11, 0), 143);
    }

    private static void promise13Bath() {
        FoldDye x = withThickBundle();
        x.board(0, 0, 25);
        x.board(0, 25, 0);
        x.board(0, 25, 50);
        x.board(0, 50, 25);
        int inner = x.stack(0, 25, 7);
        int second = x.stack(0, 25, 1);
        due("the inmost two are not reached", x.bath(0, 21, 3), 4 * 16 + 14);
        due("not reached", x.depth(0, inner), 0);
        due("reached after 4", x.depth(0, second), 3);
        due("reached after 19 and faded", x.depth(0, x.stack(0, 25, 6)), 1);
        x.dry(0);
        due("the inmost two", x.bath(0, 22, 3), 4 * 16 + 16);
        due("faded by 21 / 8", x.depth(0, inner), 1);
        x.dry(0);
        due("strength 2 is gone at 17", x.bath(0, 99, 2), 4 * 16 + 12);
        x.rule(2, 20);
        x.dry(0);
        x.bath(0, 99, 15);
        due("15 at most", x.depth(0, x.stack(0, 25, 0)), 15);
        due("15 less 1", x.depth(0, inner), 15);
        due("nothing is deeper", x.bath(0, 99, 15), 0);
        due("soaked", x.about(0, 6), 1);
        due("shut stays", x.depth(0, x.stack(0, 1, 3)), 0);
    }

    private static void promise13And14Wrong() {
        FoldDye x = withCloth(2, 2);
        int[][] wrong = {{1, 1, 1}, {-1, 1, 1}, {0, 0, 1}, {0, 100, 1}, {0, 1, 0}, {0, 1, 16},
            {0, Integer.MIN_VALUE, 1}, {0, Integer.MAX_VALUE, 1}, {0, 1, Integer.MIN_VALUE}, {0, 1, Integer.MAX_VALUE}};
        for (int[] w : wrong) {
            due("a wrong bath", x.bath(w[0], w[1], w[2]), FoldDye.NONE);
            due("a wrong discharge", x.discharge(w[0], w[1], w[2]), FoldDye.NONE);
        }
        due("not soaked by them", x.about(0, 6), 0);
        due("99 minutes", x.bath(0, 99, 15), 4);
        due("99 minutes", x.discharge(0, 99, 15), 4);
    }

    private static void promise14Discharge() {
        FoldDye x = withCloth(2, 3);
        due("nothing to take away", x.discharge(0, 1, 5), 0);
        due("soaked all the same", x.about(0, 6), 1);
        dyeAllBut(x, 0, 0, 0, 5);
        due("less deep", x.discharge(0, 1, 3), 5);
        due("less by 3", x.depth(0, 1), 2);
        due("0 at least", x.discharge(0, 1, 3), 5);
        due("0 at least", x.depth(0, 1), 0);
        due("nothing any more", x.discharge(0, 1, 3), 0);

        FoldDye y = withThickBundle();
        y.rule(0, 3);
        y.rule(1, 9);
        y.bath(0, 99, 9);
        y.dry(0);
        int inner = y.stack(0, 25, 7);
        due("faded by 9 / 8", y.depth(0, inner), 8);
        due("taken where it comes", y.discharge(0, 9, 4), 144 - 10);
        due("not taken", y.depth(0, inner), 8);
        due("half the reach when soaked", y.discharge(0, 5, 4), 144);
        due("not faded when soaked", y.depth(0, inner), 4);
    }

    private static void promises15And16DryAndDepth() {
        FoldDye x = withCloth(2, 3);
        due("it was dry", x.dry(0), 0);
        x.bath(0, 1, 7);
        due("it was soaked", x.dry(0), 1);
        due("not soaked any more", x.about(0, 6), 0);
        due("it was dry", x.dry(0), 0);
        due("dry(1)", x.dry(1), FoldDye.NONE);
        due("depth(0, 14)", x.depth(0, 14), 7);
        due("depth(1, 0)", x.depth(1, 0), FoldDye.NONE);
        for (int wrong : new int[] {-1, 3, 15, 24, Integer.MIN_VALUE, Integer.MAX_VALUE}) {
            due("depth(0, wrong)", x.depth(0, wrong), FoldDye.NONE);
        }
        for (int wrong : WRONG) {
            due("dry(wrong)", x.dry(wrong), FoldDye.NONE);
            due("depth(wrong, 0)", x.depth(wrong, 0), FoldDye.NONE);
        }
    }

    private static void promise17Mirrored() {
        FoldDye x = new FoldDye();
        int[][] rectangles = {{0, 0}, {0, 25}, {25, 0}, {1, 0}, {2, 25}, {25, 25}};
        int[][] due = {{0, 0, 1, 0}, {1, 0, 0, 0}, {0, 1, 0, 0}, {0, 0, 0, 0}, {1, 1, 0, 1}, {1, 1, 1, 1}};
        for (int i = 0; i < 6; i++) {
            x.cloth(3, 3);
            dyeAllBut(x, i, rectangles[i][0], rectangles[i][1], 4);
            for (int kind = 0; kind <= 3; kind++) {
                due("mirrored(" + i + ", " + kind + ")", x.mirrored(i, kind), due[i][kind]);
            }
        }
        due("mirrored(0, 4)", x.mirrored(0, 4), FoldDye.NONE);
        for (int wrong : WRONG) {
            due("mirrored(0, wrong)", x.mirrored(0, wrong), FoldDye.NONE);
            due("mirrored(wrong, 0)", x.mirrored(wrong, 0), FoldDye.NONE);
        }
        FoldDye y = withCloth(2, 4);
        due("a slant of 2 by 4", y.mirrored(0, 2), FoldDye.STATE);
        y.board(0, 0, 1);
        y.board(0, 25, 24 * 2 + 3);
        y.bath(0, 1, 3);
        int[] turned = {0, 0, FoldDye.STATE, 1};
        for (int kind = 0; kind <= 3; kind++) {
            due("two corners, mirrored(0, " + kind + ")", y.mirrored(0, kind), turned[kind]);
        }
    }

    private static void promise18Period() {
        FoldDye x = withCloth(2, 7);
        due("all alike by columns", x.period(0, 0), 1);
        due("all alike by rows", x.period(0, 1), 1);
        for (int column = 0; column < 7; column += 3) {
            x.board(0, 1, 25 * column);
        }
        x.bath(0, 1, 3);
        due("each third column", x.period(0, 0), 3);
        due("the rows are alike", x.period(0, 1), 1);
        x.off(0);
        x.board(0, 25, 25 * 6);
        x.bath(0, 1, 1);
        due("the last one of row 1 is not as deep", x.period(0, 0), 7);
        due("the rows differ", x.period(0, 1), 2);
        FoldDye y = withCloth(5, 1);
        y.board(0, 25, 0);
        y.board(0, 25 * 3, 0);
        y.bath(0, 1, 3);
        due("each second row", y.period(0, 1), 2);
        due("one column", y.period(0, 0), 1);
        due("period(0, 2)", y.period(0, 2), FoldDye.NONE);
        for (int wrong : WRONG) {
            due("period(0, wrong)", y.period(0, wrong), FoldDye.NONE);
            due("period(wrong, 0)", y.period(wrong, 0), FoldDye.NONE);
        }
    }

    private static void promise19Steps() {
        FoldDye x = withCloth(2, 3);
        x.cloth(2, 3);
        x.cloth(3, 2);
        x.cloth(2, 4);
        x.bath(0, 1, 4);
        dyeAllBut(x, 1, 0, 0, 6);
        due("steps(0, 1)", x.steps(0, 1), 4 + 5 * 2);
        due("steps(1, 0)", x.steps(1, 0), 14);
        due("steps(1, 1)", x.steps(1, 1), 0);
        due("steps of 2 by 3 and 3 by 2", x.steps(0, 2), FoldDye.STATE);
        due("steps of 2 by 3 and 2 by 4", x.steps(0, 3), FoldDye.STATE);
        due("steps(0, 4)", x.steps(0, 4), FoldDye.NONE);
        due("steps(4, 0)", x.steps(4, 0), FoldDye.NONE);
        for (int wrong : WRONG) {
            due("steps(0, wrong)", x.steps(0, wrong), FoldDye.NONE);
            due("steps(wrong, 0)", x.steps(wrong, 0), FoldDye.NONE);
        }
    }

    private static void promise20Alike() {
        FoldDye x = withThickBundle();
        int inner = x.stack(0, 25, 7);
        x.rule(0, 1);
        x.rule(1, 9);
        due("8 and 8", x.alike(0, inner, x.stack(0, 25, 8)), 1);
        due("8 and 7", x.alike(0, inner, x.stack(0, 25, 6)), 0);
        due("2 and 1", x.alike(0, x.stack(0, 25, 1), x.stack(0, 25, 0)), 0);
        x.board(0, 0, 1);
        due("never and never", x.alike(0, x.stack(0, 0, 0), x.stack(0, 1, 7)), 1);
        due("never and 1", x.alike(0, x.stack(0, 0, 0), x.stack(0, 25, 0)), 0);
        x.bath(0, 1, 1);
        due("soaked: 1 and 1", x.alike(0, x.stack(0, 25, 1), x.stack(0, 25, 0)), 1);
        due("alike(1, 0, 0)", x.alike(1, 0, 0), FoldDye.NONE);
        due("alike(0, 0, 144)", x.alike(0, 0, 144), FoldDye.NONE);
        for (int wrong : WRONG) {
            due("alike(wrong, 0, 0)", x.alike(wrong, 0, 0), FoldDye.NONE);
            due("alike(0, wrong, 0)", x.alike(0, wrong, 0), FoldDye.NONE);
            due("alike(0, 0, wrong)", x.alike(0, 0, wrong), FoldDye.NONE);
        }
    }

    private static void promises21And22WishAndDark() {
        FoldDye x = new FoldDye();
        for (int wrong : new int[] {0, 5, -1, Integer.MIN_VALUE, Integer.MAX_VALUE}) {
            due("wish(wrong, 1)", x.wish(wrong, 1), FoldDye.NONE);
            due("wish(1, wrong)", x.wish(1, wrong), FoldDye.NONE);
        }
        due("still no wish", x.dark(0, 1), FoldDye.NONE);
        due("wish(4, 3)", x.wish(4, 3), 1);
        due("dark(38, 1)", x.dark(38, 1), 0);
        due("dark(38, 1) again", x.dark(38, 1), 1);
        due("dark(38, 0)", x.dark(38, 0), 1);
        due("dark(38, 0) again", x.dark(38, 0), 0);
        due("dark(0, 1)", x.dark(0, 1), 0);
        for (int wrong : new int[] {3, 11, 48, -1, Integer.MIN_VALUE, Integer.MAX_VALUE}) {
            due("dark(wrong, 1)", x.dark(wrong, 1), FoldDye.NONE);
        }
        for (int wrong : new int[] {2, -1, Integer.MIN_VALUE, Integer.MAX_VALUE}) {
            due("dark(0, wrong)", x.dark(0, wrong), FoldDye.NONE);
        }
        due("a wrong wish", x.wish(5, 5), FoldDye.NONE);
        due("leaves the wish", x.count(4), 1);
        due("a new wish", x.wish(4, 3), 1);
        due("has no dark cell", x.count(4), 0);
        due("has no dark cell", x.dark(0, 0), 0);
    }

    private static FoldDye wishing(String... rows) {
        FoldDye x = new FoldDye();
        due("a wish", x.wish(rows.length, rows[0].length()), 1);
        for (int r = 0; r < rows.length; r++) {
            for (int c = 0; c < rows[r].length(); c++) {
                x.dark(12 * r + c, rows[r].charAt(c) == '#' ? 1 : 0);
            }
        }
        return x;
    }

    private static void toldIs(String what, FoldDye x, int... facts) {
        for (int i = 0; i < 12; i++) {
            due(what + ": told(" + i / 4 + ", " + i % 4 + ")", x.told(i / 4, i % 4), facts[i]);
        }
    }

    private static void promises23To25Ways() {
        FoldDye x = wishing("####", "####");
        due("all dark: no fold, no board", x.way(1, 1), 0);
        toldIs("all dark", x, -1, -1, -1, -1, -1, -1, -1, -1, -1, -1, -1, -1);
        x = wishing("#..#");
        due("no fold, one board", x.way(1, 1), 0);
        toldIs("one board", x, -1, -1, -1, -1, -1, -1, -1, -1, 0, 0, 1, 2);
        x = wishing(".##.");
        due("one fold", x.way(1, 1), 1);
        toldIs("one fold", x, 0, 2, 0, -1, -1, -1, -1, -1, 0, 0, 0, 0);
        x = wishing(".#.#");
        due("two folds", x.way(1, 1), FoldDye.NOT);
        due("nearly", x.nearly(1, 1), 1);
        toldIs("none found yet", x, -1, -1, -1, -1, -1, -1, -1, -1, -1, -1, -1, -1);
        x = wishing(".##.", "####", "####", ".##.");
        due("two folds", x.way(3, 2), 2);
        toldIs("two folds", x, 0, 2, 0, -1, 1, 2, 0, -1, 0, 0, 0, 0);
        due("nearly when met", x.nearly(3, 2), 0);
        toldIs("nearly changes nothing", x, 0, 2, 0, -1, 1, 2, 0, -1, 0, 0, 0, 0);
        x.wish(1, 4);
        x.dark(1, 1);
        x.dark(3, 1);
        due("none for the new wish", x.way(3, 2), FoldDye.NOT);
        toldIs("the latest that found one", x, 0, 2, 0, -1, 1, 2, 0, -1, 0, 0, 0, 0);
        x.dark(2, 1);
        due("a fold less", x.way(3, 2), 0);
        toldIs("a new latest", x, -1, -1, -1, -1, -1, -1, -1, -1, 0, 0, 0, 0);
        x = wishing("#.#", ".##", "###");
        due("a slant", x.way(1, 1), 1);
        toldIs("a slant", x, 2, 0, 0, -1, -1, -1, -1, -1, 1, 1, 0, 0);
    }

    private static void promises23To25Wrong() {
        FoldDye x = wishing("#");
        due("way", x.way(1, 1), 0);
        for (int wrong : new int[] {0, 100, -1, Integer.MIN_VALUE, Integer.MAX_VALUE}) {
            due("way(wrong, 1)", x.way(wrong, 1), FoldDye.NONE);
            due("nearly(wrong, 1)", x.nearly(wrong, 1), FoldDye.NONE);
        }
        for (int wrong : new int[] {0, 16, -1, Integer.MIN_VALUE, Integer.MAX_VALUE}) {
            due("way(1, wrong)", x.way(1, wrong), FoldDye.NONE);
            due("nearly(1, wrong)", x.nearly(1, wrong), FoldDye.NONE);
        }
        x = wishing(".##.", "####", "####", ".##.");
        due("way(99, 15)", x.way(99, 15), 2);
        for (int wrong : new int[] {3, -1, Integer.MIN_VALUE, Integer.MAX_VALUE}) {
            due("told(wrong, 0)", x.told(wrong, 0), FoldDye.NONE);
            due("told(0, wrong)", x.told(0, wrong), FoldDye.NONE);
            due("told(1, wrong)", x.told(1, wrong), FoldDye.NONE);
        }
        due("told(2, 4)", x.told(2, 4), FoldDye.NONE);
        due("told(2, -1)", x.told(2, -1), FoldDye.NONE);
        due("told(0, 4)", x.told(0, 4), FoldDye.NONE);
        due("told(0, 8)", x.told(0, 8), FoldDye.NONE);
    }

    private static void promise26Count() {
        FoldDye x = withCloth(2, 3);
        x.cloth(1, 7);
        x.bath(0, 1, 4);
        x.bath(1, 1, 2);
        x.fold(1, 0, 4, 0);
        x.fold(1, 0, 2, 0);
        x.fold(1, 0, 1, 0);
        x.fold(1, 0, 1, 0);
        due("count(0)", x.count(0), 2);
        due("count(1)", x.count(1), 6 + 7);
        due("count(2)", x.count(2), 6 * 4 + 7 * 2);
        due("count(3)", x.count(3), 2);
        due("count(4)", x.count(4), 0);
        x.wish(2, 2);
        x.dark(0, 1);
        x.dark(13, 1);
        due("count(4)", x.count(4), 2);
        due("count(5)", x.count(5), FoldDye.NONE);
        for (int wrong : WRONG) {
            due("count(wrong)", x.count(wrong), FoldDye.NONE);
        }
    }

    public static void main(String[] args) {
        promise1NewObject();
        promise2Cloth();
        promise3Rule();
        promise4FoldsByLines();
        promise4Slants();
        promise4Wrong();
        promise4TwelveFolds();
        promise4Refused();
        promise4Tears();
        promise5Open();
        promise6About();
        promises7to9StackPlaceHigh();
        promises10And11Boards();
        promise12Reach();
        promises12And13OfTheGreatestCloth();
        promise13Bath();
        promise13And14Wrong();
        promise14Discharge();
        promises15And16DryAndDepth();
        promise17Mirrored();
        promise18Period();
        promise19Steps();
        promise20Alike();
        promises21And22WishAndDark();
        promises23To25Ways();
        promises23To25Wrong();
        promise26Count();
        CHECKS.end();
    }
}
