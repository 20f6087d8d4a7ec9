/** What the document says ahead of its terms, the numbers of the answers, and an object's calls from first to last. */
final class Workshop {
    private static Document document;

    private static void whatItIs() {
        Run run = document.says("A dyer's workshop of folded cloth: cloth in cells folded by lines and slants into stacks, "
            + "boards that hold dye off, baths that seep in from faces and edges layer by layer, soaked cloth that tears, "
            + "dips that deepen and baths that take away, cloth opened again with each cell once, mirrors and turns of what was dyed, "
            + "two cloths held against each other, and the fewest folds and boards that make a wanted small picture, gone through in order.");
        run.does("cloth 4 4 = 0; fold 0 0 2 0 = 1; fold 0 1 2 0 = 2; fold 0 2 0 0 = 3; about 0 5 = 8; about 0 9 = 3");
        run.stackIs(0, 0, 3, 39, 36).stackIs(24, 12, 15, 27, 24, 37, 38, 2, 1).stackIs(25, 13, 14, 26, 25);
        run.does("board 0 0 0 = 1; bath 0 1 5 = 12; off 0 = 1; fold 0 1 1 0 = TEARS; about 0 7 = 1");
        run.does("bath 0 1 2 = 16; depth 0 0 = 2; depth 0 1 = 7; discharge 0 1 1 = 16; depth 0 0 = 1; depth 0 1 = 6; open 0 = 3");
        for (int cell = 0; cell < 16; cell++) {
            run.stackIs(24 * (cell / 4) + cell % 4, 12 * (cell / 4) + cell % 4);
        }
        run.does("mirrored 0 0 = 1; mirrored 0 1 = 1; mirrored 0 2 = 1; mirrored 0 3 = 1; period 0 0 = 3; period 0 1 = 3");
        run.does("cloth 4 4 = 1; steps 0 1 = 76; steps 1 0 = 76; wish 4 4 = 1");
        for (int cell = 0; cell < 16; cell++) {
            boolean corner = cell % 3 == 0 && cell != 6 && cell != 9;
            run.does("dark " + (12 * (cell / 4) + cell % 4) + " " + (corner ? 0 : 1) + " = 0");
        }
        run.does("way 1 5 = 2; told 0 0 = 0; told 0 1 = 2; told 1 0 = 1; told 1 1 = 2; told 2 0 = 0; told 2 3 = 0");
    }

    private static void fromFacesAndEdges() {
        Run run = document.says("baths that seep in from faces and edges layer by layer");
        run.does("cloth 12 12 = 0; fold 0 0 6 0 = 1; fold 0 1 6 0 = 2; fold 0 0 3 0 = 3; fold 0 1 3 0 = 4; rule 1 9 = 2; rule 0 1 = 3");
        for (int high = 0; high < 16; high++) {
            run.would("reach 0 " + run.answerOf("stack 0 25 " + high) + " = " + (1 + Math.min(high, 15 - high)));
            run.would("reach 0 " + run.answerOf("stack 0 24 " + high) + " = 1");
        }
        run.does("bath 0 1 1 = 130; dry 0 = 1; bath 0 2 1 = 132; dry 0 = 1; bath 0 7 1 = 142; dry 0 = 1; bath 0 8 1 = 144");
    }

    private static void numbersOfTheAnswers() {
        document.says("NONE (" + FoldDye.NONE + "): there is no such thing").does("cloth 0 1 = -1; about 0 0 = -1; way 1 1 = -1");
        Run run = document.says("FULL (" + FoldDye.FULL + "); STATE (" + FoldDye.STATE + "): as told; HELD (" + FoldDye.HELD
            + "); THICK (" + FoldDye.THICK + "); TEARS (" + FoldDye.TEARS + "); NEVER (" + FoldDye.NEVER + "); NOT (" + FoldDye.NOT + ").");
        run.does("cloth 5 5 = 0; cloth 2 3 = 1; cloth 1 7 = 2; cloth 1 1 = 3; cloth 1 1 = 4; cloth 1 1 = 5; cloth 1 1 = -2");
        run.does("fold 1 2 0 0 = -3; mirrored 1 2 = -3; steps 0 1 = -3; board 1 0 0 = 1; fold 1 0 1 0 = -4; reach 1 0 = -7");
        run.does("fold 0 0 1 0 = 1; fold 0 0 2 0 = 2; fold 0 0 1 0 = 3; fold 0 1 1 0 = 4; fold 0 1 2 0 = 5; fold 0 1 1 0 = -5");
        run.does("bath 2 1 1 = 7; fold 2 0 4 0 = 1; fold 2 0 2 0 = 2; fold 2 0 1 0 = -6; stack 2 0 4 = -8");
        run.does("wish 1 3 = 1; dark 1 1 = 0; way 1 1 = -8");
        for (int i = 2; i <= 6; i++) {
            run.does("board 1 0 0 = " + i);
        }
        run.does("board 1 0 0 = -2");
    }

    /** The last of the 512 calls is answered as the first ones are; later ones answer what they like, but do not throw. */
    private static void fiveHundredAndTwelveCalls() {
        String sentence = "An object is used for at most 512 calls after it has been made; what later calls answer is free.";
        String round = "fold 0 0 6 0 = 1; bath 0 1 15 = 144; discharge 0 1 15 = 144; dry 0 = 1; open 0 = 1;";
        document.says(sentence).does("cloth 12 12 = 0;" + round.repeat(102) + "count 1 = 144");
        FoldDye x = new FoldDye();
        String later = "cloth 12 12; wish 4 4; dark 0 1; way 1 1; nearly 1 1; board 0 0 0; off 0; reach 0 0; alike 0 0 143; told 2 0;";
        for (Call call : Call.allOf((later + round).repeat(200))) {
            call.on(x);
        }
    }

    static void all(Document quoted) {
        document = quoted;
        whatItIs();
        fromFacesAndEdges();
        numbersOfTheAnswers();
        fiveHundredAndTwelveCalls();
    }
}
