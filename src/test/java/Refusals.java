/** Which answer comes first, that a refused call changes nothing, wrong numbers of every call. */
final class Refusals {
    private static Document document;

    private static final String FIRST = "Answers, the first that a call names";
    private static final String UNCHANGED = "What is refused changes nothing, but as said.";
    private static final String NO_SUCH = "NONE (-1): there is no such thing, or a number is not as said";

    /** Every call that takes a cloth's number, right for a cloth of at least 2 by 2. */
    private static final String[] OF_A_CLOTH = {"fold _ 0 1 0", "fold _ 2 0 0", "open _", "about _ 0", "stack _ 0 0",
        "place _ 0", "high _ 0", "board _ 0 0", "off _", "reach _ 0", "bath _ 1 1", "discharge _ 1 1", "dry _", "depth _ 0",
        "mirrored _ 0", "period _ 0", "steps _ 0", "steps 0 _", "alike _ 0 0"};

    /** Every number of every call, one at a time: no number below 0, and none so great, is right there. */
    private static final String[] EVERY_NUMBER = {"cloth _ 1", "cloth 1 _", "rule _ 1", "rule 0 _", "rule 1 _", "rule 2 _",
        "fold _ 0 1 0", "fold 0 _ 1 0", "fold 0 0 _ 0", "fold 0 1 _ 0", "fold 0 2 _ 0", "fold 0 0 1 _", "fold 0 2 0 _",
        "open _", "about _ 0", "about 0 _", "stack _ 0 0", "stack 0 _ 0", "place _ 0", "place 0 _", "high _ 0", "high 0 _",
        "board _ 0 0", "board 0 _ 0", "board 0 0 _", "off _", "reach _ 0", "reach 0 _", "bath _ 1 1", "bath 0 _ 1", "bath 0 1 _",
        "discharge _ 1 1", "discharge 0 _ 1", "discharge 0 1 _", "dry _", "depth _ 0", "depth 0 _", "mirrored _ 0",
        "mirrored 0 _", "period _ 0", "period 0 _", "steps _ 0", "steps 0 _", "alike _ 0 0", "alike 0 _ 0", "alike 0 0 _",
        "wish _ 1", "wish 1 _", "dark _ 1", "dark 0 _", "way _ 1", "way 1 _", "nearly _ 1", "nearly 1 _", "told _ 0", "told 0 _",
        "told 2 _", "count _"};
    private static final String[] NEVER_RIGHT = {"MIN", "-2147483647", "-576", "-25", "-24", "-13", "-12", "-2", "-1", "2147483646", "MAX"};

    private static final String WISHED = "wish 2 2 = 1; dark 1 1 = 0; dark 12 1 = 0; dark 13 1 = 0; way 1 1 = 0; dark 13 0 = 1;"
        + "rule 0 4 = 3; rule 1 5 = 2; rule 2 6 = 8;";
    private static final String ONE_CLOTH = WISHED + "cloth 4 4 = 0; fold 0 2 0 0 = 1; bath 0 1 5 = 16;";

    /** Six cloths: open, folded and boarded, slanted and soaked, torn, shut, and one that has 12 folds. */
    private static String sixCloths() {
        StringBuilder calls = new StringBuilder(WISHED + "cloth 3 3 = 0; board 0 25 25 = 1; bath 0 1 3 = 8; off 0 = 1; dry 0 = 1;"
            + "cloth 2 5 = 1; fold 1 0 2 0 = 1; bath 1 9 2 = 10; board 1 1 25 = 1; board 1 0 2 = 2;"
            + "cloth 4 4 = 2; fold 2 2 0 1 = 1; bath 2 1 9 = 16; cloth 2 7 = 3; fold 3 0 3 0 = 1; fold 3 0 2 1 = 2;"
            + "bath 3 1 1 = 14; fold 3 0 1 0 = TEARS; cloth 2 3 = 4; board 4 1 2 = 1; discharge 4 3 3 = 0; cloth 2 2 = 5;");
        for (int i = 1; i <= 12; i++) {
            calls.append("fold 5 2 0 0 = " + i + ";");
        }
        return calls.toString();
    }

    private static void noSuchCloth() {
        for (String call : OF_A_CLOTH) {
            Run none = document.says(NO_SUCH).does(WISHED);
            for (String wrong : new String[] {"0", "1", "5", "6", "-1", "MIN", "MAX"}) {
                none.refuses(call.replace("_", wrong) + " = NONE");
            }
            document.says(NO_SUCH).does(ONE_CLOTH).within(call, 0, 0);
            document.says(NO_SUCH).does(sixCloths()).within(call, 0, 5);
        }
    }

    private static void numbersThatAreNeverRight() {
        for (String call : EVERY_NUMBER) {
            Run run = document.says(UNCHANGED).does(sixCloths());
            for (String wrong : NEVER_RIGHT) {
                run.refuses(call.replace("_", wrong) + " = NONE");
            }
        }
    }

    private static void refusedFoldsByLine() {
        Run boarded = document.says(FIRST).does("cloth 3 4 = 0; board 0 0 0 = 1");
        boarded.refuses("fold 0 0 1 0 = HELD; fold 0 1 2 1 = HELD; fold 0 0 3 0 = HELD");
        boarded.refuses("fold 0 0 4 0 = NONE; fold 0 0 0 0 = NONE; fold 0 1 3 0 = NONE; fold 0 0 1 2 = NONE; fold 0 3 1 0 = NONE");
        boarded.refuses("fold 0 2 0 0 = STATE; fold 0 2 1 0 = NONE; fold 0 2 0 2 = NONE; fold 0 2 -1 0 = NONE; fold 1 2 0 0 = NONE");
        boarded.does("off 0 = 1").refuses("fold 0 2 0 0 = STATE; fold 0 2 1 0 = NONE; fold 0 2 0 -1 = NONE").does("fold 0 0 1 0 = 1");
        document.says(FIRST).does("cloth 2 2 = 0; board 0 1 1 = 1").refuses("fold 0 2 0 0 = HELD; fold 0 2 1 0 = NONE; fold 0 2 0 2 = NONE")
            .does("off 0 = 1; fold 0 2 0 0 = 1");
    }

    /** Three rows of twelve cells each, then of 12 and 24: a thirteenth fold would be thick, and tear when soaked. */
    private static String twelveFoldsOfThirtySix() {
        StringBuilder calls = new StringBuilder("cloth 3 12 = 0;");
        for (int i = 1; i <= 11; i++) {
            calls.append("fold 0 0 1 0 = " + i + ";");
        }
        return calls + "fold 0 1 2 0 = 12; about 0 5 = 24;";
    }

    private static void fullAheadOfTheOthers() {
        Run thick = document.promises(4, "FULL: 12; HELD, THICK, TEARS.").does(twelveFoldsOfThirtySix());
        thick.refuses("fold 0 1 1 0 = FULL; fold 0 1 1 1 = FULL; fold 0 0 1 0 = NONE; fold 0 1 2 0 = NONE; fold 0 2 0 0 = STATE");
        thick.does("bath 0 1 1 = 36").refuses("fold 0 1 1 0 = FULL; fold 0 2 0 0 = STATE").does("about 0 7 = 0");
        thick.does("board 0 0 0 = 1").refuses("fold 0 1 1 0 = FULL; fold 0 1 1 2 = NONE; fold 0 2 0 0 = STATE");
        Run tears = document.promises(4, "FULL: 12; HELD, THICK, TEARS.").does("cloth 6 6 = 0; fold 0 0 3 0 = 1; fold 0 1 3 0 = 2");
        for (int i = 3; i <= 12; i++) {
            tears.does("fold 0 2 0 0 = " + i);
        }
        tears.does("bath 0 1 1; about 0 5 = 8").refuses("fold 0 0 1 0 = FULL; fold 0 2 0 0 = FULL").does("about 0 7 = 0; count 3 = 0");
    }

    private static void heldThickTears() {
        String sentence = "A FOLD is refused, the first of these: BOARDS are on it (HELD); a STACK would have more than 24 CELLS (THICK)";
        String thick = "cloth 12 12 = 0; fold 0 0 6 0 = 1; fold 0 1 6 0 = 2; fold 0 0 3 0 = 3; fold 0 1 3 0 = 4;";
        document.says(sentence).does(thick).refuses("fold 0 0 1 0 = THICK; fold 0 1 2 1 = THICK; fold 0 2 0 0 = THICK")
            .does("board 0 0 0 = 1").refuses("fold 0 0 1 0 = HELD; fold 0 1 2 1 = HELD; fold 0 2 0 0 = HELD; fold 0 0 3 0 = NONE")
            .does("bath 0 1 1; about 0 6 = 1").refuses("fold 0 0 1 0 = HELD; fold 0 2 0 0 = HELD")
            .does("off 0 = 1").refuses("fold 0 0 1 0 = THICK; fold 0 1 2 1 = THICK; fold 0 2 0 0 = THICK; fold 0 0 3 0 = NONE")
            .does("about 0 7 = 0; count 3 = 0; dry 0 = 1").refuses("fold 0 2 0 1 = THICK");
        String wet = "cloth 1 7 = 0; fold 0 0 4 0 = 1; fold 0 0 2 0 = 2; bath 0 1 1 = 7;";
        document.says(sentence).does(wet + "board 0 0 0 = 1").refuses("fold 0 0 1 0 = HELD; fold 0 0 2 0 = NONE; fold 0 2 0 0 = STATE")
            .does("off 0 = 1").refuses("fold 0 0 2 0 = NONE; fold 0 0 1 2 = NONE; fold 0 2 0 0 = STATE; fold 0 2 1 0 = NONE")
            .does("about 0 7 = 0").tears("fold 0 0 1 0", 0).tears("fold 0 0 1 1", 0).does("about 0 7 = 2; about 0 2 = 2");
        document.says("TEARS: not done, but TORN is one more").does(sixCloths() + "about 3 7 = 1; count 3 = 1")
            .tears("fold 3 0 1 1", 3).tears("fold 3 2 0 0", 3).does("about 3 7 = 3; about 2 7 = 0; count 3 = 3");
    }

    private static void theOtherCalls() {
        document.promises(2, "NONE, FULL.").does(sixCloths()).refuses("cloth 1 1 = FULL; cloth 0 1 = NONE; cloth 1 13 = NONE");
        Run boards = document.promises(10, "NONE, FULL.").does("cloth 2 3 = 0");
        for (int i = 1; i <= 6; i++) {
            boards.does("board 0 0 0 = " + i);
        }
        boards.refuses("board 0 1 2 = FULL; board 0 2 0 = NONE; board 0 0 3 = NONE; board 0 24 0 = NONE; board 1 0 0 = NONE");
        document.promises(7, "NONE; NOT: there is none.").does("cloth 2 2 = 0; fold 0 2 0 0 = 1")
            .asks("stack 0 1 0 = NOT; stack 0 1 99 = NOT; stack 0 0 1 = NOT; stack 0 2 99 = NONE; stack 1 1 0 = NONE; stack 0 1 -1 = NONE");
        document.promises(12, "NONE; NEVER.").does("cloth 2 2 = 0; board 0 1 1 = 1")
            .asks("reach 0 0 = NEVER; reach 0 2 = NONE; reach 0 24 = NONE; reach 1 0 = NONE");
        document.promises(17, "NONE; STATE: kind 2, and it is not square.").does("cloth 2 3 = 0")
            .asks("mirrored 0 2 = STATE; mirrored 1 2 = NONE; mirrored 0 4 = NONE; mirrored -1 2 = NONE");
        document.promises(19, "NONE; STATE: they are not of like size.").does("cloth 2 3 = 0; cloth 3 2 = 1")
            .asks("steps 0 1 = STATE; steps 0 2 = NONE; steps 2 1 = NONE; steps 2 2 = NONE");
        document.promises(23, "NOT. NONE: no WISH, too.").does("wish 1 3 = 1; dark 1 1 = 0")
            .asks("way 1 1 = NOT; way 0 1 = NONE; way 1 16 = NONE; way 100 0 = NONE");
    }

    private static void wrongBathsAndRules() {
        document.says(UNCHANGED).does("cloth 2 2 = 0; bath 0 1 3 = 4; dry 0 = 1")
            .refuses("bath 0 0 1 = NONE; bath 0 100 1 = NONE; bath 0 1 0 = NONE; bath 0 1 16 = NONE; bath 1 1 1 = NONE")
            .refuses("discharge 0 0 1 = NONE; discharge 0 100 1 = NONE; discharge 0 1 0 = NONE; discharge 0 1 16 = NONE; discharge 1 1 1 = NONE")
            .does("about 0 6 = 0; depth 0 0 = 3");
        document.says(UNCHANGED).does(sixCloths())
            .refuses("rule 0 0 = NONE; rule 0 10 = NONE; rule 1 0 = NONE; rule 1 10 = NONE; rule 2 0 = NONE; rule 2 21 = NONE; rule 3 1 = NONE")
            .refuses("wish 0 1 = NONE; wish 5 1 = NONE; wish 1 5 = NONE; dark 2 1 = NONE; dark 24 1 = NONE; dark 0 2 = NONE");
    }

    /** What other calls show is the same after a call that only asks. */
    private static void asking() {
        Run run = document.says(UNCHANGED).does(sixCloths());
        run.asks("about 1 5; stack 1 0 0; stack 1 0 9; place 1 4; high 1 4; reach 1 4; reach 4 0; depth 2 0; mirrored 0 2");
        run.asks("period 0 0; steps 0 1; steps 0 0; alike 1 0 4; nearly 1 1; told 2 0; count 2; rule 0 4; off 0; dry 0; open 0; dark 0 0");
    }

    private static void twoObjects() {
        Run one = document.says("All memory is the class's own.").does(sixCloths());
        Run other = document.says("All memory is the class's own.").does("count 0 = 0; rule 0 3 = 3; dark 0 1 = NONE; told 2 0 = NONE");
        other.does("cloth 3 3 = 0; depth 0 0 = 0; wish 4 4 = 1; fold 0 2 0 0 = 1; board 0 2 2 = 1; bath 0 1 1 = 0");
        one.does("count 0 = 6; rule 0 4 = 4; about 0 2 = 0; about 0 8 = 0; about 0 6 = 0; depth 0 0 = 3; count 4 = 2; told 2 0 = 0");
    }

    static void all(Document quoted) {
        document = quoted;
        noSuchCloth();
        numbersThatAreNeverRight();
        refusedFoldsByLine();
        fullAheadOfTheOthers();
        heldThickTears();
        theOtherCalls();
        wrongBathsAndRules();
        asking();
        twoObjects();
    }
}
