import java.util.ArrayList;
import java.util.Arrays;
import java.util.List;

/** One call of the face as text, "fold 0 0 1 0", perhaps with its due answer, "fold 0 0 1 0 = FULL". */
final class Call {
    private static final List<String> ANSWERS =
        List.of("NONE", "FULL", "STATE", "HELD", "THICK", "TEARS", "NEVER", "NOT");

    private final String name;
    private final int[] numbers;
    private final boolean hasDue;
    private final int due;

    private Call(String name, int[] numbers, boolean hasDue, int due) {
        this.name = name;
        this.numbers = numbers;
        this.hasDue = hasDue;
        this.due = due;
    }

    static Call of(String text) {
        String[] halves = text.trim().split("\\s*=\\s*");
        String[] words = halves[0].split("\\s+");
        int[] numbers = new int[words.length - 1];
        for (int i = 0; i < numbers.length; i++) {
            numbers[i] = number(words[i + 1]);
        }
        boolean hasDue = halves.length > 1;
        return new Call(words[0], numbers, hasDue, hasDue ? number(halves[1]) : 0);
    }

    /** Calls with a semicolon between each two of them. */
    static List<Call> allOf(String text) {
        List<Call> calls = new ArrayList<>();
        for (String one : text.split(";")) {
            if (!one.isBlank()) {
                calls.add(of(one));
            }
        }
        return calls;
    }

    private static int number(String word) {
        if (word.equals("MIN")) {
            return Integer.MIN_VALUE;
        }
        if (word.equals("MAX")) {
            return Integer.MAX_VALUE;
        }
        int answer = ANSWERS.indexOf(word);
        return answer >= 0 ? -1 - answer : Integer.parseInt(word);
    }

    /** Of a FoldDye or of the Model, which has calls of the same names. */
    int on(Object x) {
        Class<?>[] types = new Class<?>[numbers.length];
        Arrays.fill(types, int.class);
        try {
            return (Integer) x.getClass().getDeclaredMethod(name, types).invoke(x, Arrays.stream(numbers).boxed().toArray());
        } catch (ReflectiveOperationException e) {
            throw new IllegalStateException(this + " can not be made, or threw", e);
        }
    }

    boolean isAnsweredBy(int answer) {
        return !hasDue || answer == due;
    }

    int due() {
        return due;
    }

    @Override
    public String toString() {
        return name + Arrays.toString(numbers).replace('[', '(').replace(']', ')');
    }
}
