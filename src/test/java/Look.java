import java.util.ArrayList;
import java.util.LinkedHashMap;
import java.util.List;
import java.util.Map;

/** All that other calls show of an object after some calls: what a refused call must leave as it is. */
final class Look {
    private static final int MOST_CALLS = 512;

    private final List<Call> history;
    private final Map<String, Integer> shown = new LinkedHashMap<>();

    private Look(List<Call> history) {
        this.history = history;
    }

    static Map<String, Integer> after(List<Call> history) {
        Look look = new Look(history);
        FoldDye x = look.again();
        List<String> asked = new ArrayList<>();
        int cloths = x.count(0);
        askOfAll(asked);
        for (int cloth = 0; cloth < cloths; cloth++) {
            askOfCloth(asked, cloth, cloths);
            askOfCells(asked, cloth, look.again());
            askOfPlaces(asked, cloth, look.again());
        }
        look.ask(asked);
        look.askWhatAnsweringChanges();
        return look.shown;
    }

    private FoldDye again() {
        FoldDye x = new FoldDye();
        for (Call call : history) {
            call.on(x);
        }
        return x;
    }

    private static void askOfAll(List<String> asked) {
        for (int what = 0; what <= 4; what++) {
            asked.add("count " + what);
        }
        for (int i = 0; i <= 2; i++) {
            for (int what = 0; what <= 3; what++) {
                asked.add("told " + i + " " + what);
            }
        }
        asked.add("nearly 1 1");
    }

    private static void askOfCloth(List<String> asked, int cloth, int cloths) {
        for (int what = 0; what <= 9; what++) {
            asked.add("about " + cloth + " " + what);
        }
        for (int kind = 0; kind <= 3; kind++) {
            asked.add("mirrored " + cloth + " " + kind);
        }
        asked.add("period " + cloth + " 0");
        asked.add("period " + cloth + " 1");
        for (int other = 0; other < cloths; other++) {
            asked.add("steps " + cloth + " " + other);
        }
    }

    private static void askOfCells(List<String> asked, int cloth, FoldDye x) {
        int rows = x.about(cloth, 0);
        int columns = x.about(cloth, 1);
        for (int row = 0; row < rows; row++) {
            for (int column = 0; column < columns; column++) {
                String cell = cloth + " " + (12 * row + column);
                asked.add("place " + cell);
                asked.add("high " + cell);
                asked.add("depth " + cell);
                asked.add("reach " + cell);
                asked.add("alike " + cell + " 0");
            }
        }
    }

    private static void askOfPlaces(List<String> asked, int cloth, FoldDye x) {
        int rows = x.about(cloth, 3);
        int columns = x.about(cloth, 4);
        int most = x.about(cloth, 5);
        for (int row = 0; row < rows; row++) {
            for (int column = 0; column < columns; column++) {
                for (int high = 0; high <= most; high++) {
                    asked.add("stack " + cloth + " " + (24 * row + column) + " " + high);
                }
            }
        }
    }

    /** Goes to a new object with the same history whenever one has had all the calls that it is promised for. */
    private void ask(List<String> asked) {
        FoldDye x = again();
        int calls = history.size();
        for (String text : asked) {
            if (calls == MOST_CALLS) {
                x = again();
                calls = history.size();
            }
            shown.put(text, Call.of(text).on(x));
            calls++;
        }
    }

    /** The rules and the wish are told only by calls that change them, so each object is left behind then. */
    private void askWhatAnsweringChanges() {
        List<String> asked = new ArrayList<>(List.of("rule 0 1", "rule 1 1", "rule 2 1", "way 1 1"));
        for (int row = 0; row <= 4; row++) {
            for (int column = 0; column <= 4; column++) {
                asked.add("dark " + (12 * row + column) + " 0");
            }
        }
        ask(asked);
    }
}
