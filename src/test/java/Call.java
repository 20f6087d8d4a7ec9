import java.util.ArrayList;
import java.util.Arrays;
import java.util.List;

/** One call of the face as text, "fold 0 0 1 0", perhaps with its due answer, "fold 0 0 1 0 = FULL". */
final class Call {
    private static final List<String> ANSWERS =
        List.of("NONE", "FULL", "STATE", "HELD", "THICK", "TEARS", "NEVER", "NOT");

    private final String name;
    private final int[] numbers;
    private final boolean hasDue;
    private final int due;

    private Call(String name, int[] numbers, boolean hasDue, int due) {
        this.name = name;
        this.numbers = numbers;
        this.hasDue = hasDue;
        this.due = due;
    }

    static Call of(String text) {
        String[] halves = text.trim().split("\\s*=\\s*");
        String[] words = halves[0].split("\\s+");
        int[] numbers = new int[words.length - 1];
        for (int i = 0; i < numbers.length; i++) {
            numbers[i] = number(words[i + 1]);
        }
        boolean hasDue = halves.length > 1;
        return new Call(words[0], numbers, hasDue, hasDue ? number(halves[1]) : 0);
    }

    /** Calls with a semicolon between each two of them. */
    static List<Call> allOf(String text) {
        List<Call> calls = new ArrayList<>();
        for (String one : text.split(";")) {
            if (!one.isBlank()) {
                calls.add(of(one));
            }
        }
        return calls;
    }

    private static int number(String word) {
        if (word.equals("MIN")) {
            return Integer.MIN_VALUE;
        }
        if (word.equals("MAX")) {
            return Integer.MAX_VALUE;
        }
        int answer = ANSWERS.indexOf(word);
        return answer >= 0 ? -1 - answer : Integer.parseInt(word);
    }

    int on(FoldDye x) {
        int[] n = Arrays.copyOf(numbers, 4);
        return switch (name + " " + numbers.length) {
            case "cloth 2" -> x.cloth(n[0], n[1]);
            case "rule 2" -> x.rule(n[0], n[1]);
            case "fold 4" -> x.fold(n[0], n[1], n[2], n[3]);
            case "open 1" -> x.open(n[0]);
            case "about 2" -> x.about(n[0], n[1]);
            case "stack 3" -> x.stack(n[0], n[1], n[2]);
            case "place 2" -> x.place(n[0], n[1]);
            case "high 2" -> x.high(n[0], n[1]);
            case "board 3" -> x.board(n[0], n[1], n[2]);
            case "off 1" -> x.off(n[0]);
            case "reach 2" -> x.reach(n[0], n[1]);
            case "bath 3" -> x.bath(n[0], n[1], n[2]);
            case "discharge 3" -> x.discharge(n[0], n[1], n[2]);
            case "dry 1" -> x.dry(n[0]);
            case "depth 2" -> x.depth(n[0], n[1]);
            case "mirrored 2" -> x.mirrored(n[0], n[1]);
            case "period 2" -> x.period(n[0], n[1]);
            case "steps 2" -> x.steps(n[0], n[1]);
            case "alike 3" -> x.alike(n[0], n[1], n[2]);
            case "wish 2" -> x.wish(n[0], n[1]);
            case "dark 2" -> x.dark(n[0], n[1]);
            case "way 2" -> x.way(n[0], n[1]);
            case "nearly 2" -> x.nearly(n[0], n[1]);
            case "told 2" -> x.told(n[0], n[1]);
            case "count 1" -> x.count(n[0]);
            default -> throw new IllegalArgumentException("no such call: " + this);
        };
    }

    boolean isAnsweredBy(int answer) {
        return !hasDue || answer == due;
    }

    int due() {
        return due;
    }

    @Override
    public String toString() {
        return name + Arrays.toString(numbers).replace('[', '(').replace(']', ')');
    }
}
