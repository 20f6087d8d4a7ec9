/** The edges of mirrors, periods, steps, wishes, ways and counts (promises 17 to 26), sentence by sentence. */
final class PictureEdges {
    private static Document document;

    private static final String ALL_NONE = "NONE NONE NONE NONE";
    private static final String NOTHING = ALL_NONE + " " + ALL_NONE + " " + ALL_NONE;

    /** A new cloth 0 that is dyed but for one cell. */
    private static String allBut(int rows, int columns, int row, int column, int strength) {
        return "cloth " + rows + " " + columns + " = 0; board 0 " + 25 * row + " " + 25 * column + " = 1;"
            + "bath 0 1 " + strength + " = " + (rows * columns - 1) + "; off 0 = 1;";
    }

    private static void oneCellThatDiffers(int rows, int columns) {
        for (int row = 0; row < rows; row++) {
            for (int column = 0; column < columns; column++) {
                boolean inMiddleColumn = 2 * column == columns - 1;
                boolean inMiddleRow = 2 * row == rows - 1;
                document.promises(17, "1 if a CLOTH is MIRRORED by a kind, else 0.")
                    .does(allBut(rows, columns, row, column, 1))
                    .does("mirrored 0 0 = " + (inMiddleColumn ? 1 : 0) + "; mirrored 0 1 = " + (inMiddleRow ? 1 : 0))
                    .does("mirrored 0 2 = " + (rows != columns ? "STATE" : row == column ? "1" : "0"))
                    .does("mirrored 0 3 = " + (inMiddleColumn && inMiddleRow ? 1 : 0));
            }
        }
    }

    private static void mirrored() {
        int[][] sizes = {{1, 1}, {1, 2}, {2, 1}, {1, 3}, {3, 1}, {2, 2}, {3, 3}, {3, 4}, {4, 3}, {12, 12}, {1, 12}, {11, 12}};
        for (int[] size : sizes) {
            oneCellThatDiffers(size[0], size[1]);
        }
        String sentence = "MIRRORED: a CLOTH's DEPTHS by kind 0 (columns), 1 (rows), 2 (row and column change places; only of as many rows as columns), "
            + "3 (turned half round): whether they are the same";
        String four = "cloth 3 4 = 0; board 0 0 0 = 1;";
        document.says(sentence).does(four + "board 0 0 75 = 2; bath 0 1 1 = 10")
            .does("mirrored 0 0 = 1; mirrored 0 1 = 0; mirrored 0 2 = STATE; mirrored 0 3 = 0");
        document.says(sentence).does(four + "board 0 50 0 = 2; bath 0 1 1 = 10")
            .does("mirrored 0 0 = 0; mirrored 0 1 = 1; mirrored 0 2 = STATE; mirrored 0 3 = 0");
        document.says(sentence).does(four + "board 0 50 75 = 2; bath 0 1 1 = 10")
            .does("mirrored 0 0 = 0; mirrored 0 1 = 0; mirrored 0 2 = STATE; mirrored 0 3 = 1");
        document.says(sentence).does("cloth 3 3 = 0; board 0 0 25 = 1; board 0 25 0 = 2; bath 0 1 1 = 7")
            .does("mirrored 0 0 = 0; mirrored 0 1 = 0; mirrored 0 2 = 1; mirrored 0 3 = 0");
        document.says(sentence).does("cloth 2 2 = 0; bath 0 1 14 = 4; board 0 0 0 = 1; bath 0 1 1 = 3; off 0 = 1")
            .does("mirrored 0 0 = 0; mirrored 0 1 = 0; mirrored 0 2 = 1; mirrored 0 3 = 0; bath 0 1 1 = 1")
            .does("mirrored 0 0 = 1; mirrored 0 1 = 1; mirrored 0 2 = 1; mirrored 0 3 = 1");
        Run run = document.promises(17, "NONE; STATE: kind 2, and it is not square.").does("cloth 2 2 = 0; cloth 2 3 = 1");
        run.within("mirrored 0 _", 0, 3).accepts("mirrored 1 _", 3);
        run.refuses("mirrored 1 2 = STATE; mirrored 1 4 = NONE; mirrored 1 -1 = NONE; mirrored 2 2 = NONE");
        run.does("fold 1 0 2 0 = 1; about 1 4 = 2").refuses("mirrored 1 2 = STATE").does("fold 0 0 1 0 = 1; mirrored 0 2 = 1");
    }

    /** Cloth 0, as deep in each column as its number. */
    private static String stairs() {
        StringBuilder calls = new StringBuilder("cloth 2 12 = 0;");
        for (int last = 0; last < 11; last++) {
            calls.append("board 0 1 " + last + " = 1; bath 0 1 1 = " + 2 * (11 - last) + "; off 0 = 1;");
        }
        return calls.toString();
    }

    private static void period() {
        String sentence = "PERIOD by columns (0) or rows (1): the least p (1 ..) such that each CELL is as deep as that p further (if there is one)";
        document.says(sentence).does("cloth 1 1 = 0; period 0 0 = 1; period 0 1 = 1; bath 0 1 1 = 1; period 0 0 = 1");
        document.says(sentence).does("cloth 12 12 = 0; period 0 0 = 1; period 0 1 = 1");
        document.says(sentence).does("cloth 2 7 = 0; board 0 1 0 = 1; board 0 1 75 = 2; board 0 1 150 = 3; bath 0 1 1 = 8")
            .does("period 0 0 = 3; period 0 1 = 1");
        document.says(sentence).does("cloth 7 2 = 0; board 0 0 1 = 1; board 0 75 1 = 2; board 0 150 1 = 3; bath 0 1 1 = 8")
            .does("period 0 1 = 3; period 0 0 = 1");
        sentence = "PERIOD by columns (0), rows (1): as many as there are, if no lesser one is. NONE.";
        document.promises(18, sentence).does(stairs() + "depth 0 11 = 11; depth 0 12 = 0; period 0 0 = 12; period 0 1 = 1")
            .does("board 0 1 10 = 1; discharge 0 1 15 = 2; off 0 = 1; depth 0 11 = 0; period 0 0 = 11; period 0 1 = 1")
            .does("board 0 0 11 = 1; bath 0 1 1 = 12; period 0 1 = 2; period 0 0 = 11");
        document.promises(18, sentence).does(allBut(12, 1, 11, 0, 1) + "period 0 1 = 12; period 0 0 = 1");
        document.promises(18, sentence).does(allBut(1, 12, 0, 0, 1) + "period 0 0 = 12; period 0 1 = 1");
        document.promises(18, sentence).does(allBut(12, 12, 11, 11, 1) + "period 0 0 = 12; period 0 1 = 12");
        document.promises(18, sentence).does("cloth 1 2 = 0").within("period 0 _", 0, 1)
            .does("fold 0 0 1 0 = 1; about 0 4 = 1; period 0 0 = 1");
    }

    private static void steps() {
        document.says("STEPS of two CLOTHS of like rows and columns: the sum of the differences of DEPTHS, without sign; if they are not of like size none")
            .does("cloth 12 12 = 0; cloth 12 12 = 1; steps 0 1 = 0; bath 0 1 15 = 144; steps 0 1 = 2160; steps 1 0 = 2160")
            .does("steps 0 0 = 0; bath 1 1 1 = 144; steps 0 1 = 2016; board 1 0 0 = 1; discharge 1 1 1 = 143; steps 1 0 = 2159");
        Run run = document.promises(19, "STEPS of two CLOTHS. NONE; STATE: they are not of like size.");
        run.does("cloth 2 3 = 0; cloth 3 2 = 1; cloth 2 4 = 2; cloth 1 3 = 3; cloth 2 3 = 4; steps 0 4 = 0; steps 4 0 = 0");
        run.refuses("steps 0 1 = STATE; steps 1 0 = STATE; steps 0 2 = STATE; steps 0 3 = STATE; steps 3 0 = STATE");
        run.does("fold 2 0 3 0 = 1; about 2 4 = 3; steps 0 2 = STATE; fold 0 0 1 0 = 1; steps 0 4 = 0");
        run.refuses("steps 0 5 = NONE; steps 5 0 = NONE; steps 1 5 = NONE; steps 0 -1 = NONE; steps -1 0 = NONE");
        run.refuses("steps 0 MIN = NONE; steps MIN 0 = NONE; steps 0 MAX = NONE; steps MAX 0 = NONE; steps 5 5 = NONE");
    }

    private static void alike() {
        Run run = document.says("BY FOLDS ALIKE: two CELLS of a CLOTH, as it is folded now, are ALIKE if their REACH is the same (NEVER is as NEVER)");
        run.does("cloth 12 12 = 0; fold 0 0 6 0 = 1; fold 0 1 6 0 = 2; fold 0 0 3 0 = 3; fold 0 1 3 0 = 4; rule 0 1 = 3; rule 1 9 = 2");
        int[] middle = new int[16];
        for (int high = 0; high < 16; high++) {
            middle[high] = run.answerOf("stack 0 25 " + high);
        }
        for (int high = 0; high < 16; high++) {
            int same = Math.min(high, 15 - high) == 1 ? 1 : 0;
            run.would("alike 0 " + middle[high] + " " + middle[1] + " = " + same);
            run.would("alike 0 " + middle[1] + " " + middle[high] + " = " + same);
            run.would("bath 0 1 1; alike 0 " + middle[high] + " " + middle[1] + " = " + (Math.min(high, 15 - high) <= 1 ? 1 : 0));
            run.would("open 0 = 4; alike 0 " + middle[high] + " " + middle[1] + " = 1");
        }
        for (int rules = 0; rules < 81; rules++) {
            int layer = 1 + rules / 9;
            int side = 1 + rules % 9;
            int same = Math.min(layer, side) == Math.min(2 * layer, side) ? 1 : 0;
            run.would("rule 0 " + layer + "; rule 1 " + side + "; alike 0 " + middle[1] + " " + middle[2] + " = " + same);
        }
        run.does("board 0 25 25 = 1").would("alike 0 " + middle[0] + " " + middle[7] + " = 1");
        run.would("alike 0 " + middle[0] + " " + run.answerOf("stack 0 0 0") + " = 0");
        run.would("alike 0 " + run.answerOf("stack 0 0 0") + " " + middle[0] + " = 0");
        document.promises(20, "1 if two CELLS are ALIKE, else 0. NONE.").does("cloth 12 12 = 0; alike 0 0 0 = 1; alike 0 143 143 = 1")
            .within("alike 0 _ 0", 0, 143).within("alike 0 0 _", 0, 143);
        document.promises(20, "1 if two CELLS are ALIKE, else 0. NONE.").does("cloth 2 3 = 0; board 0 1 2 = 1; alike 0 0 14 = 1")
            .refuses("alike 0 0 3 = NONE; alike 0 3 0 = NONE; alike 0 15 0 = NONE; alike 0 0 15 = NONE; alike 0 0 24 = NONE")
            .refuses("alike 0 24 0 = NONE; alike 0 3 3 = NONE; alike 1 0 0 = NONE; alike 0 MIN MIN = NONE; alike 0 MAX MAX = NONE");
    }

    private static void wishes() {
        document.says("WISH: a small CLOTH (rows, columns 1 .. 4) and for each CELL whether it shall be DARK")
            .within("wish _ 1", 1, 4).within("wish 1 _", 1, 4).within("wish _ 4", 1, 4).within("wish 4 _", 1, 4)
            .does("dark 0 1 = NONE; wish 2 3 = 1; dark 14 1 = 0").within("wish _ 1", 1, 4).within("wish 1 _", 1, 4)
            .does("count 4 = 1; dark 14 1 = 1");
        Run run = document.promises(21, "THE WISH is of a small CLOTH, no CELL DARK: 1. NONE.").does("wish 4 4 = 1");
        for (int cell = 0; cell < 16; cell++) {
            run.does("dark " + (12 * (cell / 4) + cell % 4) + " 1 = 0; count 4 = " + (cell + 1));
        }
        run.does("wish 4 4 = 1; count 4 = 0; dark 39 0 = 0; dark 39 1 = 0; wish 1 1 = 1; count 4 = 0; dark 0 1 = 0");
        run.refuses("dark 1 1 = NONE; dark 12 1 = NONE; dark 39 1 = NONE; wish 5 5 = NONE").does("count 4 = 1; count 0 = 0");
    }

    private static void darkCells() {
        String sentence = "A CELL (12 times its row, and its column) of it shall be DARK (1) or not (0): what it was. NONE.";
        for (int rows = 1; rows <= 4; rows++) {
            for (int columns = 1; columns <= 4; columns++) {
                Run run = document.promises(22, sentence).does("wish " + rows + " " + columns + " = 1");
                for (int cell = -13; cell < 150; cell++) {
                    boolean has = cell >= 0 && cell / 12 < rows && cell % 12 < columns;
                    run.does("dark " + cell + " 1 = " + (has ? "0" : "NONE"));
                    run.does("dark " + cell + " 1 = " + (has ? "1" : "NONE"));
                }
                run.does("count 4 = " + rows * columns);
            }
        }
        document.promises(22, sentence).does("wish 3 2 = 1; dark 25 1 = 0; dark 25 0 = 1; dark 25 0 = 0; dark 0 1 = 0")
            .within("dark 0 _", 0, 1).within("dark 25 _", 0, 1)
            .refuses("dark 2 1 = NONE; dark 36 1 = NONE; dark -1 1 = NONE; dark MIN 1 = NONE; dark MAX 1 = NONE; dark 2 2 = NONE");
    }

    /** A wish by its rows, as in "##.. ####". */
    private static String wish(String rows) {
        String[] lines = rows.split(" ");
        StringBuilder calls = new StringBuilder("wish " + lines.length + " " + lines[0].length() + " = 1;");
        for (int row = 0; row < lines.length; row++) {
            for (int column = 0; column < lines[row].length(); column++) {
                calls.append("dark " + (12 * row + column) + " " + (lines[row].charAt(column) == '#' ? 1 : 0) + ";");
            }
        }
        return calls.toString();
    }

    private static Run toldIs(Run run, String facts) {
        String[] due = facts.split(" ");
        for (int i = 0; i < 12; i++) {
            run.would("told " + i / 4 + " " + i % 4 + " = " + due[i]);
        }
        return run;
    }

    private static void firstWay(String sentence, String rows, int folds, String facts) {
        for (String bath : new String[] {"1 1", "1 15", "99 1", "99 15"}) {
            Run run = document.says(sentence).does(wish(rows) + "way " + bath + " = " + folds + "; nearly " + bath + " = 0");
            toldIs(run, facts).does("count 0 = 0; count 1 = 0");
            followTheWay(rows, folds, bath);
        }
    }

    /** What told() tells, done to a real cloth: the cells that shall be dark have the bath's strength, the others none. */
    private static void followTheWay(String rows, int folds, String bath) {
        String[] lines = rows.split(" ");
        Run run = document.says("It MEETS the WISH if just the CELLS that shall be are DARK.");
        run.does(wish(rows) + "way " + bath + "; cloth " + lines.length + " " + lines[0].length() + " = 0");
        for (int i = 0; i < folds; i++) {
            run.does("fold 0 " + told(run, i, 0) + " " + told(run, i, 1) + " " + told(run, i, 2) + " = " + (i + 1));
        }
        if (told(run, 2, 0) != FoldDye.NONE) {
            run.does("board 0 " + (24 * told(run, 2, 0) + told(run, 2, 1)) + " " + (24 * told(run, 2, 2) + told(run, 2, 3)) + " = 1");
        }
        run.does("bath 0 " + bath);
        String strength = bath.split(" ")[1];
        for (int row = 0; row < lines.length; row++) {
            for (int column = 0; column < lines[row].length(); column++) {
                boolean dark = lines[row].charAt(column) == '#';
                run.does("depth 0 " + (12 * row + column) + " = " + (dark ? strength : "0"));
            }
        }
    }

    /** Every wish of some sizes: if there is a way, it makes just the wish of a real cloth. WayTest has those without. */
    private static void everyWayIsReal() {
        document.says("A WAY: FOLDS f1, f2 (0, 1 or 2 of them), then no BOARD or one (a rectangle of PLACES of the BUNDLE then), "
            + "then one BATH of told minutes and strength (LAYER, SIDE, FADE as they are, not SOAKED). "
            + "DARK is a CELL with DEPTH above 0 then.");
        for (int[] size : new int[][] {{1, 1}, {1, 4}, {4, 1}, {2, 2}, {2, 3}, {3, 2}, {2, 4}, {3, 3}}) {
            for (int wish = 0; wish < 1 << size[0] * size[1]; wish++) {
                StringBuilder rows = new StringBuilder();
                for (int cell = 0; cell < size[0] * size[1]; cell++) {
                    rows.append(cell > 0 && cell % size[1] == 0 ? " " : "").append((wish >> cell & 1) == 1 ? '#' : '.');
                }
                Run run = document.says("It MEETS the WISH if just the CELLS that shall be are DARK.").does(wish(rows.toString()));
                int folds = run.answerOf("way 2 3");
                if (folds >= 0) {
                    run.does("nearly 2 3 = 0");
                    followTheWay(rows.toString(), folds, "2 3");
                } else {
                    run.does("way 2 3 = NOT");
                }
            }
        }
    }

    private static int told(Run run, int i, int what) {
        return run.answerOf("told " + i + " " + what);
    }

    private static void firstWays() {
        String sentence = "FIRST WAY: fewer FOLDS first; of like many without a BOARD first; "
            + "then by the first FOLD, then by the second one, then by the BOARD.";
        firstWay(sentence, "#", 0, NOTHING);
        firstWay(sentence, "#### #### #### ####", 0, NOTHING);
        firstWay(sentence, ".", 0, ALL_NONE + " " + ALL_NONE + " 0 0 0 0");
        firstWay(sentence, ".... .... .... ....", 0, ALL_NONE + " " + ALL_NONE + " 0 3 0 3");
        firstWay(sentence, "#### #### #### ###.", 0, ALL_NONE + " " + ALL_NONE + " 3 3 3 3");
        firstWay(sentence, ".##.", 1, "0 2 0 NONE " + ALL_NONE + " 0 0 0 0");
        firstWay(sentence, ". # # .", 1, "1 2 0 NONE " + ALL_NONE + " 0 0 0 0");
        firstWay(sentence, "#. .#", 1, "2 0 0 NONE " + ALL_NONE + " 1 1 0 0");
        firstWay(sentence, ".##. #### #### .##.", 2, "0 2 0 NONE 1 2 0 NONE 0 0 0 0");
        firstWay(sentence, "..# ##.", 2, "0 1 0 NONE 2 0 0 NONE 1 1 0 0");
        firstWay(sentence, "#.. .##", 2, "0 2 0 NONE 2 0 0 NONE 1 1 0 0");
        firstWay(sentence, ".# .# #.", 2, "1 1 0 NONE 2 0 0 NONE 1 1 0 0");
        firstWay(sentence, "###. #### #### .##.", 2, "2 0 0 NONE 0 2 0 NONE 3 3 0 0");
        firstWay(sentence, ".##. #### #### .###", 2, "2 0 0 NONE 1 2 0 NONE 0 0 0 0");
        sentence = "BOARDS in order: by first row, last row, first column, last column.";
        firstWay(sentence, "#.# ..# ###", 1, "2 0 0 NONE " + ALL_NONE + " 1 1 0 1");
        firstWay(sentence, "### #.. #.#", 1, "2 0 0 NONE " + ALL_NONE + " 0 2 1 1");
    }

    /** What an earlier wish has left behind tells on no later one, greater or smaller. */
    private static void wishAfterWish() {
        String[][] wishes = {{"###. #### #### .##.", "2", "2 0 0 NONE 0 2 0 NONE 3 3 0 0"}, {"..# ##.", "2", "0 1 0 NONE 2 0 0 NONE 1 1 0 0"},
            {".# .# #.", "2", "1 1 0 NONE 2 0 0 NONE 1 1 0 0"}, {".##.", "1", "0 2 0 NONE " + ALL_NONE + " 0 0 0 0"},
            {"#. .#", "1", "2 0 0 NONE " + ALL_NONE + " 1 1 0 0"}, {"#", "0", NOTHING}};
        for (String[] first : wishes) {
            for (String[] second : wishes) {
                Run run = document.promises(21, "THE WISH is of a small CLOTH, no CELL DARK: 1.");
                run.does(wish(first[0]) + "way 1 1 = " + first[1] + ";" + wish(second[0]) + "nearly 1 1 = 0; way 1 1 = " + second[1]);
                toldIs(run, second[2]).does(wish(".#.") + "way 1 1 = NOT; nearly 1 1 = 1");
                toldIs(run, second[2]).does(wish("#.# .##") + "way 1 1 = NOT; nearly 1 1 = 1");
                toldIs(run, second[2]);
            }
        }
    }

    private static void noWay() {
        document.promises(23, "FIRST WAY by a BATH: how many FOLDS it has; NOT. NONE: no WISH, too.")
            .refuses("way 1 1 = NONE; way 99 15 = NONE; way 0 0 = NONE").does("wish 1 3 = 1; dark 1 1 = 0")
            .refuses("way 1 1 = NOT; way 99 15 = NOT; way 0 1 = NONE; way 100 1 = NONE; way 1 0 = NONE; way 1 16 = NONE")
            .within("way _ 1", 1, 99).within("way 1 _", 1, 15).within("way _ 15", 1, 99).within("way 99 _", 1, 15)
            .does("told 0 0 = NONE; told 2 0 = NONE; dark 0 1 = 0; way 1 1 = 0; told 2 2 = 2");
        document.says("FOLDS f1, f2 (0, 1 or 2 of them), then no BOARD or one")
            .does(wish("#..# .##. .##. #..#")).refuses("way 1 1 = NOT");
        String sentence = "FOLDS in order: kind, then line, then VALLEY ahead of MOUNTAIN (just those that can be made).";
        document.says(sentence).does(wish("#. .#") + "way 1 1 = 1; told 0 0 = 2");
        document.says(sentence).does(wish("#.# .##")).refuses("way 1 1 = NOT").does("nearly 1 1 = 1");
        document.says(sentence).does(wish("#. .# ##")).refuses("way 1 1 = NOT").does("nearly 1 1 = 1");
        document.says("(LAYER, SIDE, FADE as they are, not SOAKED)")
            .does("rule 0 9 = 3; rule 1 9 = 2; rule 2 1 = 8; cloth 4 4 = 0; bath 0 1 1 = 16; board 0 0 0 = 1")
            .does(wish(".##. #### #### .##.") + "way 1 1 = 2; nearly 1 1 = 0; about 0 6 = 1; about 0 8 = 1; about 0 2 = 0; count 2 = 16");
    }

    private static void nearly() {
        document.promises(24, "NEARLY by a BATH: 0 if some WAY MEETS it. NONE: no WISH, too.")
            .refuses("nearly 1 1 = NONE; nearly 99 15 = NONE; nearly 0 0 = NONE").does("wish 1 1 = 1")
            .asks("nearly 1 1 = 0; nearly 99 15 = 0")
            .within("nearly _ 1", 1, 99).within("nearly 1 _", 1, 15).within("nearly _ 15", 1, 99).within("nearly 99 _", 1, 15);
        String sentence = "NEARLY: if no WAY MEETS it: the least number of CELLS in which a WAY differs.";
        document.says(sentence).does(wish(".#.") + "way 1 1 = NOT").asks("nearly 1 1 = 1; nearly 99 15 = 1");
        document.says(sentence).does(wish(".#.#") + "way 1 1 = NOT").asks("nearly 1 1 = 1");
        document.says(sentence).does(wish("#... ...# #... ....") + "way 1 1 = NOT").asks("nearly 1 1 = 2");
        document.says(sentence).does(wish(".##.") + "way 1 1 = 1; dark 0 1 = 0").asks("nearly 1 1 = 0; nearly 100 1 = NONE; nearly 1 0 = NONE");
    }

    private static void toldOfTheLatest() {
        String sentence = "Of the latest way() that found one: FOLD i (0, 1) what 0 kind, 1 line, 2 how; "
            + "of the BOARD (i 2): 0 to 3 first row, last row, first column, last column.";
        Run run = document.promises(25, sentence);
        toldIs(run, NOTHING).does(wish(".##. #### #### .##."));
        toldIs(run, NOTHING).does("way 1 1 = 2");
        run.within("told 0 _", 0, 2).within("told 1 _", 0, 2).within("told 2 _", 0, 3).within("told _ 0", 0, 2);
        String found = "0 2 0 NONE 1 2 0 NONE 0 0 0 0";
        toldIs(run, found).does("nearly 1 1 = 0; wish 1 3 = 1");
        toldIs(run, found).does("dark 1 1 = 0; way 1 1 = NOT");
        toldIs(run, found).does("way 0 1 = NONE; nearly 1 1 = 1; wish 5 1 = NONE");
        toldIs(run, found).does("dark 0 1 = 0; way 1 1 = 0");
        toldIs(run, ALL_NONE + " " + ALL_NONE + " 0 0 2 2").does("dark 2 1 = 0; way 1 1 = 0");
        toldIs(run, NOTHING);
        document.promises(25, "NONE: none such (no such FOLD, no BOARD), or before any.")
            .does(wish(".##.") + "way 1 1 = 1; told 0 0 = 0; told 0 1 = 2; told 0 2 = 0; told 1 0 = NONE; told 2 3 = 0")
            .refuses("told 0 3 = NONE; told 0 4 = NONE; told 1 1 = NONE; told 2 4 = NONE; told 3 0 = NONE; told -1 0 = NONE")
            .refuses("told 0 -1 = NONE; told 2 -1 = NONE; told MIN 0 = NONE; told MAX 0 = NONE; told 0 MIN = NONE; told 2 MAX = NONE");
    }

    private static void count() {
        String sentence = "How many: 0 CLOTHS, 1 CELLS of all, 2 DEPTHS of all together, 3 TORN of all, 4 CELLS that shall be DARK. NONE.";
        document.promises(26, sentence).within("count _", 0, 4);
        Run run = document.promises(26, sentence);
        for (int i = 0; i < 6; i++) {
            run.does("cloth 12 12 = " + i + "; bath " + i + " 1 15 = 144; fold " + i + " 0 6 0 = 1; fold " + i + " 0 3 0 = 2");
            run.does("fold " + i + " 1 6 0 = TEARS; fold " + i + " 1 6 1 = TEARS");
        }
        run.does(wish("#### #### #### ####") + "count 0 = 6; count 1 = 864; count 2 = 12960; count 3 = 12; count 4 = 16");
        run.refuses("count 5 = NONE; count -1 = NONE; count MIN = NONE; count MAX = NONE; cloth 1 1 = FULL");
        document.promises(26, sentence).does("cloth 2 3 = 0; cloth 1 7 = 1; count 0 = 2; count 1 = 13; bath 0 1 4 = 6; count 2 = 24")
            .does("bath 1 1 2 = 7; count 2 = 38; discharge 0 1 1 = 6; count 2 = 32; count 3 = 0; count 4 = 0");
    }

    static void all(Document quoted) {
        document = quoted;
        mirrored();
        period();
        steps();
        alike();
        wishes();
        darkCells();
        firstWays();
        everyWayIsReal();
        wishAfterWish();
        noWay();
        nearly();
        toldOfTheLatest();
        count();
    }
}
