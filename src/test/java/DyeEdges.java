/** The edges of rules, boards, reach and baths (promises 3 and 10 to 16), sentence by sentence. */
final class DyeEdges {
    private static Document document;

    /** A bundle of 3 by 3 with 24 cells in the middle and 8, 3, 6 and 16 above, left, right and below. */
    private static final String DEEP = "cloth 6 11 = 0; fold 0 0 3 0 = 1; fold 0 0 6 0 = 2; fold 0 0 5 0 = 3;"
        + "fold 0 0 3 0 = 4; fold 0 1 1 0 = 5; fold 0 1 3 0 = 6; about 0 5 = 24;";
    private static final String FOUR_BOARDS = "board 0 0 25 = 1; board 0 50 25 = 2; board 0 25 0 = 3; board 0 25 50 = 4;";

    /** A lower half of 6 by 6 places: 4 cells in those of the slant, 8 in the others. */
    private static final String HALF = "cloth 12 12 = 0; fold 0 0 6 0 = 1; fold 0 1 6 0 = 2; fold 0 2 0 0 = 3;";

    private static void reachIs(Run run, int place, int high, String due) {
        run.would("reach 0 " + run.answerOf("stack 0 " + place + " " + high) + " = " + due);
    }

    private static void depthIs(Run run, String ahead, int place, int high, int due) {
        run.would(ahead + "; depth 0 " + run.answerOf("stack 0 " + place + " " + high) + " = " + due);
    }

    private static void rules() {
        String sentence = "LAYER (what 0), SIDE (1), FADE (2) becomes v: what it was. NONE.";
        document.promises(3, sentence).within("rule 0 _", 1, 9).within("rule 1 _", 1, 9).within("rule 2 _", 1, 20);
        document.promises(3, sentence).within("rule _ 1", 0, 2).within("rule _ 9", 0, 2);
        document.promises(3, sentence).does("rule 0 9 = 3; rule 0 10 = NONE; rule 0 1 = 9; rule 0 0 = NONE; rule 0 1 = 1")
            .does("rule 1 9 = 2; rule 1 10 = NONE; rule 1 1 = 9; rule 1 0 = NONE; rule 1 1 = 1")
            .does("rule 2 20 = 8; rule 2 21 = NONE; rule 2 1 = 20; rule 2 0 = NONE; rule 2 1 = 1");
        document.says("LAYER minutes (1 .. 9, told; 3 at first)").does("rule 0 3 = 3");
        document.says("SIDE minutes (1 .. 9; 2 at first)").does("rule 1 2 = 2");
        document.says("FADE 1 .. 20, told; 8 at first").does("rule 2 8 = 8");
    }

    private static void sixBoards() {
        Run run = document.says("BOARDS: rectangles of PLACES of the BUNDLE (at most 6 at once, they may meet)").does("cloth 2 2 = 0");
        for (int i = 1; i <= 6; i++) {
            run.does("board 0 " + (i % 2 == 0 ? "1 1" : "0 0") + " = " + i);
        }
        run.refuses("board 0 0 0 = FULL; board 0 1 1 = FULL; board 0 25 25 = FULL").does("about 0 8 = 6");
        run.does("off 0 = 6; about 0 8 = 0; reach 0 0 = 1; off 0 = 0");
        for (int i = 1; i <= 6; i++) {
            run.does("board 0 0 0 = " + i);
        }
        run.refuses("board 0 25 25 = FULL; fold 0 0 1 0 = HELD").does("open 0 = 0; about 0 8 = 0; board 0 25 25 = 1");
        run.does("reach 0 0 = 1; reach 0 13 = NEVER");
        document.promises(11, "All BOARDS come off: how many there were. NONE.")
            .does("cloth 1 1 = 0; off 0 = 0; board 0 0 0 = 1; off 0 = 1; off 0 = 0; reach 0 0 = 1; fold 0 0 1 0 = NONE");
    }

    private static void spansOfBoards() {
        String sentence = "A BOARD comes on: how many there are. rows: 24 times the first row, and the last one; columns likewise (of the BUNDLE). NONE, FULL.";
        for (String pattern : new String[] {"board 0 _ 0", "board 0 0 _"}) {
            Run greatest = document.promises(10, sentence).does("cloth 12 12 = 0");
            spans(greatest, pattern, new int[] {0, 11, 25, 35, 275}, new int[] {12, 23, 24, 49, 36, 274, 276, 287, 288, 299});
            Run least = document.promises(10, sentence).does("cloth 1 1 = 0");
            spans(least, pattern, new int[] {0}, new int[] {1, 23, 24, 25});
        }
        Run run = document.promises(10, sentence).does("cloth 3 5 = 0");
        spans(run, "board 0 _ 0", new int[] {0, 2, 25, 26, 50}, new int[] {3, 27, 48, 49, 51, 72, 75});
        spans(run, "board 0 0 _", new int[] {0, 4, 25, 28, 100}, new int[] {5, 29, 24, 99, 101, 120, 125});
        run.does("fold 0 0 3 0 = 1; fold 0 1 2 0 = 2; about 0 3 = 2; about 0 4 = 3");
        spans(run, "board 0 _ 0", new int[] {0, 1, 25}, new int[] {2, 26, 50});
        spans(run, "board 0 0 _", new int[] {0, 2, 50}, new int[] {3, 27, 51, 75});
    }

    private static void spans(Run run, String pattern, int[] right, int[] wrong) {
        for (int span : right) {
            run.accepts(pattern, span);
        }
        for (int span : wrong) {
            run.refuses(pattern.replace("_", span + "") + " = NONE");
        }
        for (String span : new String[] {"-1", "-24", "-25", "MIN", "MAX"}) {
            run.refuses(pattern.replace("_", span) + " = NONE");
        }
    }

    private static void shutPlaces() {
        Run run = document.says("a PLACE under one is SHUT").does("cloth 12 12 = 0; board 0 77 177 = 1; board 0 106 201 = 2");
        for (int cell = 0; cell < 144; cell++) {
            int row = cell / 12;
            int column = cell % 12;
            boolean first = row >= 3 && row <= 5 && column >= 7 && column <= 9;
            boolean second = row >= 4 && row <= 10 && column >= 8 && column <= 9;
            run.does("reach 0 " + cell + " = " + (first || second ? "NEVER" : "1"));
        }
        document.says("a PLACE under one is SHUT").does("cloth 12 12 = 0; board 0 0 0 = 1; board 0 275 275 = 2")
            .does("reach 0 0 = NEVER; reach 0 1 = 1; reach 0 12 = 1; reach 0 143 = NEVER; reach 0 142 = 1; reach 0 131 = 1");
        document.says("a PLACE under one is SHUT").does("cloth 12 12 = 0; board 0 11 11 = 1; reach 0 0 = NEVER")
            .does("reach 0 143 = NEVER; bath 0 99 15 = 0; about 0 6 = 1; count 2 = 0");
        document.says("rectangles of PLACES of the BUNDLE").does("cloth 1 5 = 0; fold 0 0 2 0 = 1; board 0 0 0 = 1")
            .does("reach 0 4 = NEVER; reach 0 0 = 1; reach 0 3 = 1; reach 0 1 = 1; bath 0 1 1 = 4; depth 0 4 = 0");
    }

    private static void highestAndLowest() {
        Run run = document.says("begin at a PLACE that is not SHUT at its highest or lowest CELL (1 minute)");
        run.does(DEEP + "rule 0 9 = 3; rule 1 9 = 2");
        reachIs(run, 25, 0, "1");
        reachIs(run, 25, 1, "10");
        reachIs(run, 25, 22, "10");
        reachIs(run, 25, 23, "1");
        run.does("board 0 25 25 = 1");
        reachIs(run, 25, 0, "NEVER");
        reachIs(run, 25, 23, "NEVER");
    }

    private static void bareSides() {
        String sentence = "or at any CELL of a PLACE that is not SHUT and has a side (of four) without any CELL "
            + "(1 minute; also the BUNDLE's end)";
        Run run = document.says(sentence).does(DEEP + "rule 0 9 = 3; rule 1 9 = 2");
        int[][] ends = {{0, 1}, {1, 8}, {2, 2}, {24, 3}, {26, 6}, {48, 2}, {49, 16}, {50, 4}};
        for (int[] end : ends) {
            for (int high = 0; high < end[1]; high++) {
                reachIs(run, end[0], high, "1");
            }
        }
        run.does("board 0 0 25 = 1");
        reachIs(run, 1, 4, "NEVER");
        run = document.says(sentence).does(HALF);
        reachIs(run, 50, 1, "1");
        reachIs(run, 50, 2, "1");
        reachIs(run, 74, 1, "3");
        reachIs(run, 74, 4, "5");
        run.does("board 0 25 50 = 1; board 0 50 75 = 2; about 0 8 = 2");
        reachIs(run, 50, 1, "1");
        reachIs(run, 50, 2, "1");
        run.does("board 0 50 50 = 3");
        reachIs(run, 50, 1, "NEVER");
    }

    private static void layers() {
        Run run = document.says("and go on: to the CELL above or below in its STACK: LAYER minutes (1 .. 9, told; 3 at first)");
        run.does(DEEP + FOUR_BOARDS);
        for (int layer : new int[] {3, 1, 9}) {
            run.does("rule 0 " + layer);
            for (int high = 0; high < 24; high++) {
                reachIs(run, 25, high, "" + (1 + layer * Math.min(high, 23 - high)));
            }
        }
    }

    private static void sides() {
        Run run = document.says("to the CELL as high (counted from the lowest) in a PLACE beside it (four sides), if that has one: "
            + "SIDE minutes (1 .. 9; 2 at first)");
        run.does(DEEP);
        String[] due = {"1", "3", "3", "3", "3", "3", "3", "3", "3", "3", "3", "3", "3", "3", "3", "3",
            "6", "9", "12", "13", "10", "7", "4", "1"};
        for (int high = 0; high < 24; high++) {
            reachIs(run, 25, high, due[high]);
        }
        run.does("rule 0 9 = 3; rule 1 1 = 2");
        reachIs(run, 25, 15, "2");
        reachIs(run, 25, 16, "11");
        run.does("rule 1 9 = 1");
        reachIs(run, 25, 15, "10");
        String[] shut = {"board 0 50 25 = 1", "board 0 0 25 = 2", "board 0 25 50 = 3", "board 0 25 0 = 4"};
        int[] highest = {15, 7, 5, 2};
        for (int i = 0; i < 4; i++) {
            reachIs(run, 25, highest[i], "10");
            reachIs(run, 25, highest[i] + 1, "19");
            run.does(shut[i]);
        }
        reachIs(run, 25, 2, "19");
    }

    /** Dye comes into the middle from above, from below, or from a side and on by layers: whatever is sooner. */
    private static void leastSum() {
        String sentence = "REACH of a CELL in the BUNDLE as it is: minutes till dye comes there: the least sum over ways that";
        for (int layer = 1; layer <= 9; layer++) {
            for (int side = 1; side <= 9; side++) {
                Run run = document.says(sentence).does(DEEP + "rule 0 " + layer + "; rule 1 " + side);
                for (int high = 0; high < 24; high++) {
                    int fromFaces = 1 + layer * Math.min(high, 23 - high);
                    int fromSides = 1 + side + layer * Math.max(0, high - 15);
                    reachIs(run, 25, high, "" + Math.min(fromFaces, fromSides));
                }
            }
        }
        Run run = document.says(sentence).does(DEEP);
        int inner = run.answerOf("stack 0 25 19");
        run.does("reach 0 " + inner + " = 13; board 0 25 25 = 1; reach 0 " + inner + " = NEVER; off 0 = 1; reach 0 " + inner + " = 13");
        run.does("open 0 = 6; reach 0 " + inner + " = 1; fold 0 0 3 0 = 1; reach 0 " + inner + " = 1");
    }

    /** Four cells in each place of a bundle of 12 by 3, and of 3 by 12: dye comes between them at every inner place. */
    private static void everyInnerPlace() {
        String sentence = "the least sum over ways that begin at a PLACE that is not SHUT";
        Run tall = document.says(sentence).does("cloth 12 12 = 0; fold 0 0 6 0 = 1; fold 0 0 3 0 = 2; about 0 3 = 12; about 0 4 = 3");
        Run wide = document.says(sentence).does("cloth 12 12 = 0; fold 0 1 6 0 = 1; fold 0 1 3 0 = 2; about 0 3 = 3; about 0 4 = 12");
        for (String side : new String[] {"2 = 2", "9 = 2"}) {
            tall.does("rule 1 " + side);
            wide.does("rule 1 " + side);
            for (int i = 1; i <= 10; i++) {
                for (int high = 1; high <= 2; high++) {
                    String due = side.startsWith("2") ? "3" : "4";
                    reachIs(tall, 24 * i + 1, high, due);
                    reachIs(wide, 24 + i, high, due);
                }
            }
        }
    }

    private static void neverIntoShutPlaces() {
        Run run = document.says("never into a SHUT PLACE").does(DEEP + FOUR_BOARDS + "rule 0 9 = 3; rule 1 1 = 2");
        reachIs(run, 25, 1, "10");
        reachIs(run, 1, 1, "NEVER");
        reachIs(run, 49, 1, "NEVER");
        run = document.says("A CELL in a SHUT PLACE, or to which no way goes, is NEVER reached.");
        run.does("cloth 1 1 = 0; board 0 0 0 = 1; reach 0 0 = NEVER; bath 0 99 15 = 0; about 0 6 = 1; reach 0 0 = NEVER");
        run.does("depth 0 0 = 0; discharge 0 99 15 = 0; off 0 = 1; reach 0 0 = 1");
        document.promises(12, "REACH of a CELL now. NONE; NEVER.")
            .does("cloth 12 12 = 0; fold 0 0 6 0 = 1").within("reach 0 _", 0, 143).does("board 0 11 5 = 1")
            .does("reach 0 0 = NEVER; reach 0 143 = NEVER").refuses("reach 0 144 = NONE; reach 0 -1 = NONE");
    }

    private static void soakedHalf() {
        Run run = document.says("Of a SOAKED CLOTH: half of it, up.").does(DEEP + FOUR_BOARDS + "rule 0 1 = 3; discharge 0 1 1 = 0");
        for (int high = 0; high < 24; high++) {
            int whole = 1 + Math.min(high, 23 - high);
            reachIs(run, 25, high, "" + (whole / 2 + whole % 2));
        }
        reachIs(run, 1, 0, "NEVER");
        run.does("rule 0 9 = 1");
        reachIs(run, 25, 11, "50");
        reachIs(run, 25, 10, "46");
        run.does("dry 0 = 1");
        reachIs(run, 25, 11, "100");
    }

    /** With LAYER 9 the middle's cells have the reach 1, 10, 19 .. 100 from both ends; 9 cells of the corners have 1. */
    private static void minutesOfABath() {
        for (String dip : new String[] {"bath", "discharge"}) {
            int promise = dip.equals("bath") ? 13 : 14;
            Run run = document.promises(promise, promise == 13 ? "A BATH: how many CELLS became deeper. NONE."
                : "A DISCHARGE: how many became less deep. NONE.");
            run.does(DEEP + "bath 0 99 2; bath 0 99 15; dry 0 = 1; discharge 0 99 4; dry 0 = 1;");
            run.does(FOUR_BOARDS + "rule 0 9 = 3; rule 2 20 = 8");
            run.within(dip + " 0 _ 1", 1, 99).within(dip + " 0 1 _", 1, 15);
            run.within(dip + " 0 _ 15", 1, 99).within(dip + " 0 99 _", 1, 15);
        }
        Run run = document.says("A BATH of m minutes (1 .. 99), strength s (1 .. 15): each CELL whose REACH r is m at most");
        run.does(DEEP + FOUR_BOARDS + "rule 0 9 = 3; rule 2 20 = 8");
        run.would("bath 0 1 15 = 11").would("bath 0 9 15 = 11").would("bath 0 10 15 = 13").would("bath 0 18 15 = 13");
        run.would("bath 0 19 15 = 15").would("bath 0 90 15 = 29").would("bath 0 91 15 = 31").would("bath 0 99 15 = 31");
        run.would("bath 0 1 1 = 11; bath 0 49 14 = 31").would("bath 0 1 1 = 11; bath 0 50 14 = 33");
        run.would("bath 0 1 1 = 11; dry 0 = 1; bath 0 50 14 = 21");
        depthIs(run, "bath 0 99 15", 25, 11, 0);
        depthIs(run, "bath 0 90 15", 25, 10, 0);
        depthIs(run, "bath 0 91 15", 25, 10, 11);
        depthIs(run, "bath 0 91 15", 25, 13, 11);
    }

    private static void fading() {
        String sentence = "DEPTH is more by s less (r - 1) / FADE (the rest away; FADE 1 .. 20, told; 8 at first), if that is above 0";
        Run run = document.says(sentence).does(DEEP + FOUR_BOARDS + "rule 0 8 = 3; bath 0 41 5 = 19; dry 0 = 1");
        for (int high = 0; high < 12; high++) {
            depthIs(run, "", 25, high, Math.max(0, 5 - high));
        }
        run = document.says(sentence).does(DEEP + FOUR_BOARDS + "rule 0 9 = 3");
        depthIs(run, "rule 2 20 = 8; bath 0 99 4", 25, 2, 4);
        depthIs(run, "rule 2 20 = 8; bath 0 99 4", 25, 3, 3);
        depthIs(run, "rule 2 20 = 8; bath 0 99 4", 25, 8, 1);
        depthIs(run, "rule 2 20 = 8; bath 0 99 4", 25, 9, 0);
        depthIs(run, "rule 2 18 = 8; bath 0 99 4", 25, 2, 3);
        depthIs(run, "rule 2 19 = 8; bath 0 99 4", 25, 2, 4);
        depthIs(run, "rule 2 1 = 8; bath 0 99 9", 25, 1, 0);
        depthIs(run, "rule 2 1 = 8; bath 0 99 10", 25, 1, 1);
        run.would("rule 2 1 = 8; bath 0 99 9 = 11").would("rule 2 1 = 8; bath 0 99 10 = 13");
        run.does("rule 2 20 = 8; bath 0 99 4; dry 0 = 1; rule 2 1 = 20");
        depthIs(run, "bath 0 99 1 = 11", 25, 8, 1);
        depthIs(run, "discharge 0 99 1 = 11", 25, 8, 1);
    }

    private static void fifteenAtMost() {
        document.says("15 at most. A DISCHARGE: DEPTH is less by as much, 0 at least.")
            .does("cloth 1 2 = 0; bath 0 1 14 = 2; bath 0 1 1 = 2; depth 0 0 = 15; bath 0 1 1 = 0; bath 0 1 15 = 0; depth 0 0 = 15")
            .does("board 0 0 0 = 1; discharge 0 1 1 = 1; depth 0 1 = 14; depth 0 0 = 15; off 0 = 1; bath 0 1 15 = 1; depth 0 1 = 15")
            .does("discharge 0 1 14 = 2; depth 0 1 = 1; board 0 0 0 = 1; discharge 0 1 15 = 1; depth 0 1 = 0; off 0 = 1")
            .does("discharge 0 1 2 = 1; depth 0 0 = 0; discharge 0 1 1 = 0; discharge 0 1 15 = 0; depth 0 0 = 0; count 2 = 0");
        Run run = document.says("A DISCHARGE: DEPTH is less by as much, 0 at least.");
        run.does(DEEP + FOUR_BOARDS + "rule 0 9 = 3; rule 2 20 = 8; bath 0 1 1 = 11; bath 0 99 15 = 33; dry 0 = 1");
        depthIs(run, "", 25, 11, 13);
        depthIs(run, "discharge 0 99 15 = 31", 25, 11, 13);
        depthIs(run, "discharge 0 99 15 = 31", 25, 10, 2);
        depthIs(run, "discharge 0 10 4 = 13", 25, 1, 11);
        depthIs(run, "discharge 0 10 4 = 13", 25, 2, 15);
        depthIs(run, "discharge 0 9 4 = 11", 25, 1, 15);
        depthIs(run, "discharge 0 99 4 = 27", 25, 8, 13);
        depthIs(run, "discharge 0 99 4 = 27", 25, 9, 13);
    }

    private static void soakedAndDried() {
        document.says("The CLOTH is SOAKED then; DRIED it is not.")
            .does("cloth 1 1 = 0; cloth 1 1 = 1; about 0 6 = 0; bath 0 1 1 = 1; about 0 6 = 1; about 1 6 = 0; dry 0 = 1; about 0 6 = 0")
            .does("discharge 1 1 1 = 0; about 1 6 = 1; about 0 6 = 0; open 1 = 0; about 1 6 = 1; dry 1 = 1; dry 1 = 0; about 1 6 = 0");
        document.promises(15, "It is DRIED: 1; 0: it was not SOAKED. NONE.")
            .does("cloth 1 1 = 0; dry 0 = 0; bath 0 1 1 = 1; bath 0 1 1 = 1; dry 0 = 1; dry 0 = 0; depth 0 0 = 2")
            .refuses("bath 0 0 1 = NONE; bath 0 1 16 = NONE; discharge 0 100 1 = NONE; discharge 0 1 0 = NONE").does("dry 0 = 0");
    }

    private static void depths() {
        Run run = document.promises(16, "DEPTH of a CELL. NONE.").does("cloth 12 12 = 0; bath 0 1 15 = 144");
        run.within("depth 0 _", 0, 143).does("depth 0 143 = 15; depth 0 0 = 15");
        run = document.promises(16, "DEPTH of a CELL. NONE.").does("cloth 3 4 = 0; board 0 50 75 = 1; bath 0 1 7 = 11; off 0 = 1");
        run.does("depth 0 27 = 0; depth 0 26 = 7; depth 0 15 = 7; depth 0 24 = 7; fold 0 0 1 0 = 1; depth 0 27 = 0; depth 0 24 = 7");
        for (String wrong : new String[] {"-1", "4", "11", "16", "28", "36", "143", "144", "MIN", "MAX"}) {
            run.asks("depth 0 " + wrong + " = NONE; reach 0 " + wrong + " = NONE");
        }
    }

    static void all(Document quoted) {
        document = quoted;
        rules();
        sixBoards();
        spansOfBoards();
        shutPlaces();
        highestAndLowest();
        bareSides();
        layers();
        sides();
        leastSum();
        everyInnerPlace();
        neverIntoShutPlaces();
        soakedHalf();
        minutesOfABath();
        fading();
        fifteenAtMost();
        soakedAndDried();
        depths();
    }
}
