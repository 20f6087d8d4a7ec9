/** The edges of cloths, folds and stacks (promises 1, 2 and 4 to 9), sentence by sentence. */
final class FoldEdges {
    private static Document document;

    private static void aNewObject() {
        document.promises(1, "No cloths.")
            .does("count 0 = 0; count 1 = 0; count 2 = 0; count 3 = 0; count 4 = 0")
            .refuses("about 0 0 = NONE; told 0 0 = NONE; told 2 0 = NONE")
            .refuses("dark 0 1 = NONE; way 1 1 = NONE; nearly 1 1 = NONE")
            .does("cloth 1 1 = 0; count 0 = 1");
    }

    private static void numbersOfCloths() {
        document.says("A CLOTH (0 ..").does("about 0 0 = NONE; cloth 1 2 = 0; about 0 1 = 2; about 1 0 = NONE")
            .does("cloth 1 3 = 1; cloth 1 4 = 2; cloth 1 5 = 3; cloth 1 6 = 4; about 5 0 = NONE; cloth 1 7 = 5")
            .does("about 0 1 = 2; about 1 1 = 3; about 2 1 = 4; about 3 1 = 5; about 4 1 = 6; about 5 1 = 7; about 6 0 = NONE");
    }

    private static void sixCloths() {
        Run run = document.says("5, as they were woven) has ROWS and COLUMNS (1 .. 12 each) of CELLS");
        run.within("cloth _ 1", 1, 12).within("cloth 1 _", 1, 12).within("cloth _ 12", 1, 12).within("cloth 12 _", 1, 12);
        for (int i = 0; i < 6; i++) {
            int rows = 12 - 2 * i;
            int columns = 1 + 2 * i;
            run.does("cloth 0 1 = NONE; cloth " + rows + " " + columns + " = " + i);
            run.does("about " + i + " 0 = " + rows + "; about " + i + " 1 = " + columns + "; count 0 = " + (i + 1));
        }
    }

    private static void aSeventhCloth() {
        Run run = document.promises(2, "A CLOTH is woven: its number. NONE, FULL.");
        run.does("cloth 12 12 = 0; cloth 1 1 = 1; cloth 1 12 = 2; cloth 12 1 = 3; cloth 2 2 = 4");
        run.within("cloth _ 1", 1, 12).within("cloth 1 _", 1, 12);
        run.does("cloth 3 4 = 5");
        run.refuses("cloth 1 1 = FULL; cloth 12 12 = FULL");
        run.refuses("cloth 0 1 = NONE; cloth 13 1 = NONE; cloth 1 0 = NONE; cloth 1 13 = NONE; cloth MIN MAX = NONE");
    }

    private static void depthAtFirst() {
        Run run = document.says("each with a DEPTH 0 .. 15 (0 at first)").does("cloth 12 12 = 0; count 2 = 0");
        for (int cell = 0; cell < 144; cell++) {
            run.does("depth 0 " + cell + " = 0");
        }
        run.does("bath 0 1 14 = 144; depth 0 143 = 14; bath 0 1 1 = 144; depth 0 143 = 15");
        run.does("bath 0 1 1 = 0; bath 0 1 15 = 0; depth 0 143 = 15; count 2 = 2160");
        run.does("discharge 0 1 14 = 144; depth 0 0 = 1; discharge 0 1 15 = 144; depth 0 0 = 0");
        run.does("discharge 0 1 1 = 0; discharge 0 1 15 = 0; depth 0 0 = 0; count 2 = 0");
    }

    private static void openPlaces() {
        for (int rows : new int[] {1, 3, 12}) {
            for (int columns : new int[] {1, 3, 12}) {
                for (int row = 0; row < rows; row++) {
                    Run run = document.says("Open, each PLACE has the one CELL of that row and column.");
                    run.does("cloth " + rows + " " + columns + " = 0");
                    for (int column = 0; column < columns; column++) {
                        run.stackIs(24 * row + column, 12 * row + column);
                    }
                }
            }
        }
    }

    private static void emptyPlaces() {
        document.says("Folded it is a BUNDLE: PLACES in rows and columns, at each a STACK of CELLS, the lowest first (perhaps none).")
            .does("cloth 3 3 = 0; fold 0 2 0 0 = 1; about 0 9 = 6; about 0 3 = 3; about 0 4 = 3")
            .stackIs(1).stackIs(2).stackIs(26)
            .does("stack 0 3 0 = NONE; stack 0 27 0 = NONE; stack 0 72 0 = NONE");
    }

    private static void linesOfColumns() {
        Run run = document.says("FOLDS, by numbers: kind 0 at line x (1 .. columns of the BUNDLE - 1)").does("cloth 3 12 = 0");
        run.within("fold 0 0 _ 0", 1, 11).does("fold 0 0 8 0 = 1; about 0 4 = 8");
        run.within("fold 0 0 _ 1", 1, 7).does("fold 0 0 4 0 = 2; about 0 4 = 4");
        run.within("fold 0 0 _ 0", 1, 3).does("fold 0 0 2 1 = 3; about 0 4 = 2");
        run.within("fold 0 0 _ 1", 1, 1).does("fold 0 0 1 0 = 4; about 0 4 = 1");
        run.refuses("fold 0 0 0 0 = NONE; fold 0 0 1 0 = NONE; fold 0 0 -1 0 = NONE; fold 0 0 MAX 0 = NONE");
    }

    private static void linesOfRows() {
        Run run = document.says("kind 1 at line y: likewise rows.").does("cloth 12 3 = 0");
        run.within("fold 0 1 _ 0", 1, 11).does("fold 0 1 8 0 = 1; about 0 3 = 8");
        run.within("fold 0 1 _ 1", 1, 7).does("fold 0 1 4 0 = 2; about 0 3 = 4");
        run.within("fold 0 1 _ 0", 1, 3).does("fold 0 1 2 1 = 3; about 0 3 = 2");
        run.within("fold 0 1 _ 1", 1, 1).does("fold 0 1 1 0 = 4; about 0 3 = 1");
        run.refuses("fold 0 1 0 0 = NONE; fold 0 1 1 0 = NONE; fold 0 1 -1 0 = NONE; fold 0 1 MIN 0 = NONE");
    }

    /** Every line of a cloth of two rows (columns): where each column (row) comes, and onto which. */
    private static void everyLine() {
        for (int length : new int[] {2, 5, 12}) {
            for (int line = 1; line < length; line++) {
                for (int how = 0; how <= 1; how++) {
                    Run columns = document.says("the PLACES of columns x and more come onto those ahead: column x + i onto column x - 1 - i")
                        .does("cloth 2 " + length + " = 0; fold 0 0 " + line + " " + how + " = 1");
                    Run rows = document.says("kind 1 at line y: likewise rows.")
                        .does("cloth " + length + " 2 = 0; fold 0 1 " + line + " " + how + " = 1");
                    everyColumnOrRow(columns, rows, length, line, how);
                }
            }
        }
    }

    private static void everyColumnOrRow(Run columns, Run rows, int length, int line, int how) {
        int wider = Math.max(0, length - 2 * line);
        for (int from = 0; from < length; from++) {
            boolean comes = from >= line;
            int onto = wider + (comes ? line - 1 - (from - line) : from);
            int partner = 2 * line - 1 - from;
            boolean alone = partner < 0 || partner >= length;
            int high = alone || comes == (how == 1) ? 0 : 1;
            columns.does("place 0 " + from + " = " + onto + "; high 0 " + from + " = " + high);
            columns.does("place 0 " + (12 + from) + " = " + (24 + onto) + "; high 0 " + (12 + from) + " = " + high);
            rows.does("place 0 " + 12 * from + " = " + 24 * onto + "; high 0 " + 12 * from + " = " + high);
            rows.does("place 0 " + (12 * from + 1) + " = " + (24 * onto + 1) + "; high 0 " + (12 * from + 1) + " = " + high);
        }
        int most = Math.max(line, length - line);
        columns.does("about 0 3 = 2; about 0 4 = " + most + "; about 0 9 = " + 2 * most);
        rows.does("about 0 4 = 2; about 0 3 = " + most + "; about 0 9 = " + 2 * most);
    }

    private static void everySquare() {
        for (int length = 2; length <= 12; length++) {
            for (int how = 0; how <= 1; how++) {
                Run run = document.says("the PLACE of row r and column c, c greater than r, comes onto that of row c and column r");
                run.does("cloth " + length + " " + length + " = 0; fold 0 2 0 " + how + " = 1");
                for (int cell = 0; cell < length * length; cell++) {
                    int row = cell / length;
                    int column = cell % length;
                    int place = 24 * Math.max(row, column) + Math.min(row, column);
                    int high = row == column || column > row == (how == 1) ? 0 : 1;
                    run.does("place 0 " + (12 * row + column) + " = " + place + "; high 0 " + (12 * row + column) + " = " + high);
                }
                run.does("about 0 3 = " + length + "; about 0 4 = " + length + "; about 0 9 = " + length * (length + 1) / 2);
            }
        }
    }

    private static final String[] FOLDED = {"fold 0 0 5 0 = 1", "fold 0 0 2 1 = 1; fold 0 1 6 0 = 2; fold 0 0 3 1 = 3",
        "fold 0 2 0 0 = 1; fold 0 0 4 0 = 2; fold 0 1 3 1 = 3", "fold 0 1 7 1 = 1; fold 0 0 7 0 = 2; fold 0 2 0 1 = 3; fold 0 0 2 0 = 4"};

    /** Each cell lies in one place at one height, and no stack has a gap or a cell more. */
    private static void eachCellOnce() {
        for (String folds : FOLDED) {
            Run run = document.says("Folded it is a BUNDLE: PLACES in rows and columns, at each a STACK of CELLS, the lowest first")
                .does("cloth 12 12 = 0;" + folds);
            int[] sizes = new int[24 * 12];
            for (int cell = 0; cell < 144; cell++) {
                int place = run.answerOf("place 0 " + cell);
                run.would("stack 0 " + place + " " + run.answerOf("high 0 " + cell) + " = " + cell);
                sizes[place]++;
            }
            int rows = run.answerOf("about 0 3");
            int columns = run.answerOf("about 0 4");
            for (int place = 0; place < sizes.length; place++) {
                boolean has = place / 24 < rows && place % 24 < columns;
                run.would("stack 0 " + place + " " + sizes[place] + " = " + (has ? "NOT" : "NONE"));
            }
        }
    }

    private static void turnedOver() {
        String sentence = "column x + i onto column x - 1 - i, each STACK turned over";
        document.says(sentence).does("cloth 1 4 = 0; fold 0 0 2 0 = 1").stackIs(0, 0, 3).stackIs(1, 1, 2)
            .does("fold 0 0 1 0 = 2").stackIs(0, 0, 3, 2, 1);
        document.says(sentence).does("cloth 4 1 = 0; fold 0 1 2 0 = 1").stackIs(0, 0, 36).stackIs(24, 12, 24)
            .does("fold 0 1 1 0 = 2").stackIs(0, 0, 36, 24, 12);
        document.says("Turned over: its order is the other way round.")
            .does("cloth 1 3 = 0; fold 0 0 1 0 = 1").stackIs(0, 2).stackIs(1, 0, 1)
            .does("fold 0 0 1 1 = 2").stackIs(0, 1, 0, 2);
        document.says("Turned over: its order is the other way round.")
            .does("cloth 2 4 = 0; fold 0 0 2 0 = 1; fold 0 2 0 0 = 2").stackIs(24, 12, 15, 2, 1);
    }

    private static void valleyAndMountain() {
        String sentence = "VALLEY: what comes lies on top of what is there; MOUNTAIN: below it.";
        document.says(sentence).does("cloth 1 4 = 0; fold 0 0 2 1 = 1").stackIs(0, 3, 0).stackIs(1, 2, 1)
            .does("fold 0 0 1 1 = 2").stackIs(0, 1, 2, 3, 0);
        document.says(sentence).does("cloth 4 1 = 0; fold 0 1 2 1 = 1").stackIs(0, 36, 0).stackIs(24, 24, 12)
            .does("fold 0 1 1 1 = 2").stackIs(0, 12, 24, 36, 0);
        document.says(sentence).does("cloth 2 2 = 0; fold 0 2 0 0 = 1").stackIs(24, 12, 1);
        document.says(sentence).does("cloth 2 2 = 0; fold 0 2 0 1 = 1").stackIs(24, 1, 12);
        Run how = document.promises(4, "how: 0 VALLEY, 1 MOUNTAIN.").does("cloth 3 3 = 0");
        how.within("fold 0 0 1 _", 0, 1).within("fold 0 1 1 _", 0, 1).within("fold 0 2 0 _", 0, 1);
    }

    private static void slants() {
        document.says("the PLACE of row r and column c, c greater than r, comes onto that of row c and column r (line is 0)")
            .does("cloth 3 3 = 0").within("fold 0 2 _ 0", 0, 0).within("fold 0 2 _ 1", 0, 0)
            .does("fold 0 2 0 0 = 1")
            .stackIs(0, 0).stackIs(24, 12, 1).stackIs(25, 13).stackIs(48, 24, 2).stackIs(49, 25, 14).stackIs(50, 26)
            .does("fold 0 2 0 1 = 2; about 0 2 = 2")
            .stackIs(0, 0).stackIs(24, 12, 1).stackIs(25, 13).stackIs(48, 24, 2).stackIs(49, 25, 14).stackIs(50, 26);
        Run kind = document.promises(4, "A FOLD: how many FOLDS there are.").does("cloth 3 3 = 0");
        kind.accepts("fold 0 _ 1 0", 0).accepts("fold 0 _ 1 0", 1).accepts("fold 0 _ 0 0", 2);
        kind.refuses("fold 0 -1 1 0 = NONE; fold 0 3 1 0 = NONE; fold 0 3 0 0 = NONE");
        kind.refuses("fold 0 MIN 1 0 = NONE; fold 0 MAX 1 0 = NONE; fold 0 MIN 0 0 = NONE; fold 0 MAX 0 0 = NONE");
    }

    private static void slantsThatCannotBe() {
        String sentence = "kind 2: a SLANT: the BUNDLE must have as many rows as columns";
        document.says(sentence).does("cloth 3 4 = 0").refuses("fold 0 2 0 0 = STATE; fold 0 2 0 1 = STATE")
            .does("fold 0 0 3 0 = 1; fold 0 2 0 0 = 2");
        document.says(sentence).does("cloth 4 3 = 0").refuses("fold 0 2 0 0 = STATE; fold 0 2 0 1 = STATE")
            .does("fold 0 1 3 1 = 1; fold 0 2 0 1 = 2");
        document.says(sentence).does("cloth 4 4 = 0; fold 0 0 2 0 = 1").refuses("fold 0 2 0 0 = STATE");
        document.says(sentence).does("cloth 12 12 = 0").would("fold 0 2 0 0 = 1").does("fold 0 1 11 0 = 1")
            .refuses("fold 0 2 0 0 = STATE");
        sentence = "NONE (no such line); STATE: a SLANT of a BUNDLE that is not square, or of one ROW";
        document.promises(4, sentence).does("cloth 1 1 = 0").refuses("fold 0 2 0 0 = STATE; fold 0 2 0 1 = STATE");
        document.promises(4, sentence).does("cloth 1 2 = 0").refuses("fold 0 2 0 0 = STATE")
            .does("fold 0 0 1 0 = 1").refuses("fold 0 2 0 0 = STATE");
        document.promises(4, sentence).does("cloth 12 1 = 0").refuses("fold 0 2 0 0 = STATE");
        document.promises(4, sentence).does("cloth 2 2 = 0").does("fold 0 2 0 0 = 1");
    }

    private static void widerAtTheBeginning() {
        String sentence = "If columns (rows) beyond the first one come so, the BUNDLE is as much wider there: "
            + "its first column (row) is the farthest of these.";
        Run columns = document.says(sentence).does("cloth 1 12 = 0; fold 0 0 1 0 = 1; about 0 4 = 11; about 0 3 = 1");
        Run rows = document.says(sentence).does("cloth 12 1 = 0; fold 0 1 1 1 = 1; about 0 3 = 11; about 0 4 = 1");
        for (int i = 2; i < 12; i++) {
            columns.stackIs(11 - i, i);
            rows.stackIs(24 * (11 - i), 12 * i);
        }
        columns.stackIs(10, 0, 1).does("stack 0 11 0 = NONE");
        rows.stackIs(240, 12, 0).does("stack 0 264 0 = NONE");
        document.says(sentence).does("cloth 1 4 = 0; fold 0 0 2 0 = 1; about 0 4 = 2").stackIs(0, 0, 3).stackIs(1, 1, 2);
        document.says(sentence).does("cloth 1 5 = 0; fold 0 0 2 0 = 1; about 0 4 = 3")
            .stackIs(0, 4).stackIs(1, 0, 3).stackIs(2, 1, 2);
        document.says(sentence).does("cloth 5 1 = 0; fold 0 1 2 0 = 1; about 0 3 = 3")
            .stackIs(0, 48).stackIs(24, 0, 36).stackIs(48, 12, 24);
    }

    private static void leftSmaller() {
        String sentence = "The BUNDLE's rows and columns are then just as many as are needed: "
            + "those at the beginning and at the end that have no CELL at all are left away.";
        document.says(sentence).does("cloth 1 12 = 0; fold 0 0 11 0 = 1; about 0 4 = 11; stack 0 11 0 = NONE")
            .stackIs(0, 0).stackIs(10, 10, 11);
        document.says(sentence).does("cloth 12 1 = 0; fold 0 1 11 0 = 1; about 0 3 = 11; stack 0 264 0 = NONE")
            .stackIs(0, 0).stackIs(240, 120, 132);
        document.says(sentence)
            .does("cloth 4 4 = 0; fold 0 2 0 0 = 1; fold 0 0 1 0 = 2; fold 0 1 3 0 = 3; about 0 3 = 3; about 0 4 = 3")
            .stackIs(0).stackIs(1).stackIs(2, 0).stackIs(24).stackIs(25).stackIs(26, 12, 1, 13)
            .stackIs(48, 39).stackIs(49, 26, 38, 27).stackIs(50, 24, 2, 14, 25, 37, 15, 3, 36)
            .does("fold 0 2 0 0 = 4; about 0 3 = 1; about 0 4 = 3; about 0 9 = 3; about 0 5 = 8; stack 0 24 0 = NONE")
            .stackIs(0, 39, 0).stackIs(1, 26, 38, 27, 13, 1, 12).stackIs(2, 24, 2, 14, 25, 37, 15, 3, 36);
        document.says(sentence)
            .does("cloth 4 4 = 0; fold 0 2 0 0 = 1; fold 0 0 3 0 = 2; fold 0 1 1 0 = 3; about 0 3 = 3; about 0 4 = 3")
            .stackIs(50)
            .does("fold 0 2 0 0 = 4; about 0 3 = 3; about 0 4 = 2; about 0 9 = 5; stack 0 2 0 = NONE")
            .stackIs(0, 3, 36).stackIs(1).stackIs(24, 2, 24, 37, 15).stackIs(25, 14, 25)
            .stackIs(48, 0, 1, 12, 38, 27, 39).stackIs(49, 13, 26);
    }

    private static void thick() {
        String sentence = "a STACK would have more than 24 CELLS (THICK)";
        document.says(sentence).does("cloth 12 2 = 0; fold 0 1 6 0 = 1; fold 0 1 3 0 = 2; fold 0 1 1 0 = 3")
            .does("fold 0 1 1 0 = 4; about 0 5 = 12; fold 0 0 1 0 = 5; about 0 5 = 24");
        document.says(sentence).does("cloth 2 12 = 0; fold 0 0 6 0 = 1; fold 0 0 3 0 = 2; fold 0 0 1 0 = 3")
            .does("fold 0 0 1 0 = 4; about 0 5 = 12; fold 0 1 1 1 = 5; about 0 5 = 24");
        document.says(sentence).does("cloth 5 5 = 0; fold 0 1 1 0 = 1; fold 0 1 2 0 = 2; fold 0 1 1 0 = 3")
            .does("fold 0 0 1 0 = 4; fold 0 0 2 0 = 5; about 0 5 = 15")
            .refuses("fold 0 0 1 0 = THICK; fold 0 0 1 1 = THICK");
        document.says(sentence).does("cloth 5 5 = 0; fold 0 0 1 0 = 1; fold 0 0 2 0 = 2; fold 0 0 1 0 = 3")
            .does("fold 0 1 1 0 = 4; fold 0 1 2 0 = 5; about 0 5 = 15")
            .refuses("fold 0 1 1 0 = THICK; fold 0 1 1 1 = THICK");
        document.says(sentence).does("cloth 4 12 = 0; fold 0 1 2 0 = 1; fold 0 0 4 0 = 2; fold 0 0 4 0 = 3; fold 0 0 2 0 = 4")
            .does("about 0 5 = 12").would("fold 0 2 0 0 = 5; about 0 5 = 24").would("fold 0 2 0 1 = 5; about 0 5 = 24");
        document.says(sentence).does("cloth 5 9 = 0; fold 0 1 1 0 = 1; fold 0 1 2 0 = 2; fold 0 0 4 0 = 3; fold 0 0 2 0 = 4")
            .does("fold 0 0 2 0 = 5; about 0 5 = 21").refuses("fold 0 2 0 0 = THICK; fold 0 2 0 1 = THICK");
    }

    /** The stack that would be too great lies far from the first row (column) of a long and narrow bundle. */
    private static void farStacks() {
        String thick = "a STACK would have more than 24 CELLS (THICK)";
        document.says(thick).does("cloth 12 5 = 0; fold 0 0 1 0 = 1; fold 0 0 2 0 = 2; fold 0 0 1 0 = 3; fold 0 1 9 0 = 4; fold 0 1 7 0 = 5")
            .does("about 0 3 = 7; about 0 4 = 1; about 0 5 = 20").refuses("fold 0 1 6 0 = THICK; fold 0 1 6 1 = THICK");
        document.says(thick).does("cloth 5 12 = 0; fold 0 1 1 0 = 1; fold 0 1 2 0 = 2; fold 0 1 1 0 = 3; fold 0 0 9 0 = 4; fold 0 0 7 0 = 5")
            .does("about 0 3 = 1; about 0 4 = 7; about 0 5 = 20").refuses("fold 0 0 6 0 = THICK; fold 0 0 6 1 = THICK");
        String tears = "the CLOTH is SOAKED and a STACK would have more than 6";
        document.says(tears).does("cloth 12 1 = 0; fold 0 1 9 0 = 1; fold 0 1 7 0 = 2; bath 0 1 1 = 12; about 0 5 = 4")
            .tears("fold 0 1 6 0", 0).tears("fold 0 1 6 1", 0).does("fold 0 1 5 0 = 3; about 0 5 = 5");
        document.says(tears).does("cloth 1 12 = 0; fold 0 0 9 0 = 1; fold 0 0 7 0 = 2; bath 0 1 1 = 12; about 0 5 = 4")
            .tears("fold 0 0 6 0", 0).tears("fold 0 0 6 1", 0).does("fold 0 0 5 0 = 3; about 0 5 = 5");
    }

    private static void tearing() {
        String sentence = "the CLOTH is SOAKED and a STACK would have more than 6 (TEARS: not done, but TORN is one more)";
        document.says(sentence).does("cloth 1 7 = 0; bath 0 1 1 = 7; fold 0 0 4 0 = 1; fold 0 0 2 0 = 2; about 0 7 = 0")
            .tears("fold 0 0 1 0", 0).tears("fold 0 0 1 1", 0)
            .does("about 0 7 = 2; count 3 = 2; dry 0 = 1; fold 0 0 1 0 = 3; about 0 5 = 7; about 0 7 = 2");
        document.says(sentence).does("cloth 7 1 = 0; discharge 0 1 1 = 0; fold 0 1 4 0 = 1; fold 0 1 2 0 = 2")
            .tears("fold 0 1 1 0", 0).does("open 0 = 2; about 0 7 = 1; fold 0 1 4 0 = 1; about 0 7 = 1");
        document.says(sentence).does("cloth 1 6 = 0; bath 0 1 1 = 6; fold 0 0 3 0 = 1; fold 0 0 1 0 = 2; fold 0 0 1 0 = 3")
            .does("about 0 5 = 6; about 0 7 = 0");
        document.says(sentence).does("cloth 2 7 = 0; fold 0 0 3 0 = 1; fold 0 0 2 0 = 2; bath 0 1 1 = 14; about 0 5 = 4")
            .tears("fold 0 2 0 0", 0).tears("fold 0 2 0 1", 0).does("dry 0 = 1; fold 0 2 0 0 = 3; about 0 5 = 7");
        document.says(sentence).does("cloth 2 6 = 0; fold 0 0 2 0 = 1; fold 0 0 2 0 = 2; bath 0 1 1 = 12; fold 0 2 0 0 = 3")
            .does("about 0 5 = 6; about 0 7 = 0");
    }

    private static void tearingWhatOnlyMoves() {
        String sentence = "the CLOTH is SOAKED and a STACK would have more than 6";
        document.says(sentence).does("cloth 1 12 = 0; fold 0 0 4 0 = 1; fold 0 0 6 0 = 2; fold 0 0 5 0 = 3; about 0 5 = 8")
            .does("bath 0 1 1 = 12").tears("fold 0 0 1 0", 0).does("dry 0 = 1; fold 0 0 1 0 = 4; about 0 7 = 1");
        document.says(sentence).does("cloth 1 7 = 0; cloth 1 7 = 1; bath 0 1 1 = 7; fold 1 0 4 0 = 1; fold 1 0 2 0 = 2")
            .does("fold 1 0 1 0 = 3; fold 0 0 4 0 = 1; fold 0 0 2 0 = 2; fold 0 0 1 0 = TEARS; about 0 7 = 1")
            .does("about 1 7 = 0; count 3 = 1; about 1 5 = 7");
    }

    private static void opened() {
        String sentence = "OPENED: all FOLDS are undone, BOARDS come off.";
        document.says(sentence).does("cloth 2 3 = 0; board 0 1 2 = 1; board 0 0 0 = 2; reach 0 0 = NEVER; open 0 = 0")
            .does("about 0 8 = 0; reach 0 0 = 1; off 0 = 0");
        document.says(sentence).does("cloth 1 7 = 0; fold 0 0 4 0 = 1; fold 0 0 2 1 = 2; board 0 0 0 = 1; bath 0 1 5 = 4")
            .does("off 0 = 1; fold 0 0 1 0 = TEARS; board 0 0 1 = 1; open 0 = 2; about 0 2 = 0; about 0 3 = 1; about 0 4 = 7")
            .does("about 0 5 = 1; about 0 6 = 1; about 0 7 = 1; about 0 8 = 0; about 0 9 = 7; count 2 = 20");
        Run run = document.promises(5, "OPENED: how many FOLDS it had. NONE.").does("cloth 12 12 = 0; open 0 = 0; open 0 = 0");
        run.does("fold 0 1 7 0 = 1; fold 0 0 11 1 = 2; fold 0 2 0 0 = STATE; open 0 = 2; open 0 = 0");
        for (int row = 0; row < 12; row++) {
            run.stackIs(24 * row, 12 * row).stackIs(24 * row + 11, 12 * row + 11);
        }
    }

    private static void twelveFolds() {
        Run run = document.says("At most 12 FOLDS are made one on the other.").does("cloth 2 2 = 0");
        for (int i = 1; i <= 12; i++) {
            run.does("fold 0 2 0 " + i % 2 + " = " + i);
        }
        run.refuses("fold 0 0 1 0 = FULL; fold 0 1 1 1 = FULL; fold 0 2 0 0 = FULL").does("about 0 2 = 12");
        run.does("open 0 = 12; about 0 2 = 0");
        for (int i = 1; i <= 12; i++) {
            run.does("fold 0 2 0 " + i % 2 + " = " + i);
        }
        run.refuses("fold 0 0 1 0 = FULL");
    }

    private static void about() {
        String sentence = "Of a CLOTH: 0 ROWS, 1 COLUMNS, 2 FOLDS, 3 rows of the BUNDLE, 4 its columns, 5 the most CELLS in a STACK, "
            + "6 SOAKED (1, 0), 7 TORN, 8 BOARDS, 9 PLACES that have CELLS. NONE.";
        aboutIs(document.promises(6, sentence).does("cloth 1 1 = 0").within("about 0 _", 0, 9), 1, 1, 0, 1, 1, 1, 0, 0, 0, 1);
        aboutIs(document.promises(6, sentence).does("cloth 12 12 = 0"), 12, 12, 0, 12, 12, 1, 0, 0, 0, 144);
        Run run = document.promises(6, sentence).does("cloth 3 12 = 0");
        for (int i = 1; i <= 11; i++) {
            run.does("fold 0 0 1 " + i % 2 + " = " + i);
        }
        aboutIs(run, 3, 12, 11, 3, 1, 12, 0, 0, 0, 3);
        run.does("bath 0 1 1 = 36; fold 0 1 2 0 = TEARS; fold 0 1 1 0 = TEARS; dry 0 = 1; fold 0 1 2 0 = 12");
        aboutIs(run, 3, 12, 12, 2, 1, 24, 0, 2, 0, 2);
        run.does("discharge 0 1 1 = 36");
        for (int i = 1; i <= 6; i++) {
            run.does("board 0 0 0 = " + i);
        }
        aboutIs(run, 3, 12, 12, 2, 1, 24, 1, 2, 6, 2);
        run.refuses("about 0 -1 = NONE; about 0 10 = NONE; about 0 MIN = NONE; about 0 MAX = NONE");
    }

    private static void aboutIs(Run run, int... facts) {
        for (int what = 0; what < facts.length; what++) {
            run.would("about 0 " + what + " = " + facts[what]);
        }
    }

    private static void stacks() {
        String sentence = "as high as told (0 the lowest). NONE; NOT: there is none.";
        Run run = document.promises(7, sentence).does("cloth 12 2 = 0; fold 0 1 6 0 = 1; fold 0 1 3 0 = 2; fold 0 1 1 0 = 3");
        run.does("fold 0 1 1 0 = 4; fold 0 0 1 0 = 5; about 0 5 = 24; stack 0 0 0 = 36; stack 0 0 22 = 97; stack 0 0 23 = 37");
        run.asks("stack 0 0 24 = NOT; stack 0 0 25 = NOT; stack 0 0 MAX = NOT");
        run.asks("stack 0 0 -1 = NONE; stack 0 0 MIN = NONE; stack 0 1 0 = NONE; stack 0 24 0 = NONE");
        run = document.promises(7, sentence).does("cloth 12 12 = 0; stack 0 0 0 = 0; stack 0 11 0 = 11; stack 0 24 0 = 12");
        run.does("stack 0 264 0 = 132; stack 0 275 0 = 143; stack 0 275 1 = NOT; stack 0 275 MAX = NOT");
        run.asks("stack 0 12 0 = NONE; stack 0 23 0 = NONE; stack 0 276 0 = NONE; stack 0 288 0 = NONE");
        run.asks("stack 0 -1 0 = NONE; stack 0 -24 0 = NONE; stack 0 MIN 0 = NONE; stack 0 MAX 0 = NONE");
        run = document.promises(7, "The CELL (12 times its row, and its column) in a PLACE (24 times its row in the BUNDLE, and its column)").does("cloth 3 4 = 0");
        run.does("stack 0 3 0 = 3; stack 0 4 0 = NONE; stack 0 48 0 = 24; stack 0 51 0 = 27; stack 0 72 0 = NONE");
        run.does("fold 0 0 3 0 = 1; stack 0 2 1 = 3; stack 0 3 0 = NONE; fold 0 1 2 0 = 2; stack 0 48 0 = NONE");
    }

    private static void placesAndHeights() {
        for (String call : new String[] {"place", "high"}) {
            int number = call.equals("place") ? 8 : 9;
            Run run = document.promises(number, "NONE.").does("cloth 12 12 = 0");
            run.within(call + " 0 _", 0, 143);
            run = document.promises(number, "NONE.").does("cloth 3 4 = 0; fold 0 0 2 0 = 1");
            run.accepts(call + " 0 _", 0).accepts(call + " 0 _", 3).accepts(call + " 0 _", 24).accepts(call + " 0 _", 27);
            for (int wrong : new int[] {-1, -12, 4, 11, 16, 28, 35, 36, 143, 144}) {
                run.asks(call + " 0 " + wrong + " = NONE");
            }
            run.asks(call + " 0 MIN = NONE;" + call + " 0 MAX = NONE");
        }
        document.promises(8, "The PLACE where a CELL is now.").does("cloth 12 12 = 0; place 0 143 = 275; place 0 0 = 0")
            .does("fold 0 0 1 0 = 1; place 0 0 = 10; place 0 1 = 10; place 0 11 = 0; place 0 143 = 264; open 0 = 1; place 0 143 = 275");
        document.promises(9, "How high a CELL is in its STACK.").does("cloth 1 12 = 0; fold 0 0 6 0 = 1; fold 0 0 3 0 = 2")
            .does("fold 0 0 1 1 = 3; fold 0 0 1 1 = 4; high 0 5 = 0; high 0 6 = 1; high 0 0 = 3; high 0 2 = 11; open 0 = 4; high 0 2 = 0");
    }

    static void all(Document quoted) {
        document = quoted;
        aNewObject();
        numbersOfCloths();
        sixCloths();
        aSeventhCloth();
        depthAtFirst();
        openPlaces();
        emptyPlaces();
        linesOfColumns();
        linesOfRows();
        everyLine();
        everySquare();
        eachCellOnce();
        turnedOver();
        valleyAndMountain();
        slants();
        slantsThatCannotBe();
        widerAtTheBeginning();
        leftSmaller();
        thick();
        farStacks();
        tearing();
        tearingWhatOnlyMoves();
        opened();
        twelveFolds();
        about();
        stacks();
        placesAndHeights();
    }
}
